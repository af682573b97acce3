section
-- ===== PART A: goes FIRST, ahead of the names: the tables' words, and 'selects' of the private methods out of them =====
/-- a private method of a class that the tables say can be made, by its rows of tables_1 -/
def lw_okq (q : MethodName × Nat) : Prop := (q.1.cls ≠ "java/lang/invoke/MethodHandle" ∧ q.1.cls ≠ "java/lang/invoke/VarHandle") ∧ Cond.instantiable q.1.cls q.2 ∈ tables_1 ∧ Cond.privateMethod q.1 ∈ tables_1 ∧ Cond.instanceMethod q.1 ∈ tables_1
theorem lw_p0 : lw_okq (⟨"Zfsmill", "canFetch", "(I)Z"⟩, 6) := ⟨⟨by decide +kernel, by decide +kernel⟩, List.mem_of_getElem? (i := 14) (by decide +kernel), List.mem_of_getElem? (i := 126) (by decide +kernel), List.mem_of_getElem? (i := 127) (by decide +kernel)⟩
theorem lw_p1 : lw_okq (⟨"Zfsmill", "healEveryCell", "(I)I"⟩, 6) := ⟨⟨by decide +kernel, by decide +kernel⟩, List.mem_of_getElem? (i := 14) (by decide +kernel), List.mem_of_getElem? (i := 147) (by decide +kernel), List.mem_of_getElem? (i := 148) (by decide +kernel)⟩
theorem lw_p2 : lw_okq (⟨"Zfsmill", "scrubFile", "(I)I"⟩, 6) := ⟨⟨by decide +kernel, by decide +kernel⟩, List.mem_of_getElem? (i := 14) (by decide +kernel), List.mem_of_getElem? (i := 170) (by decide +kernel), List.mem_of_getElem? (i := 171) (by decide +kernel)⟩
theorem lw_p3 : lw_okq (⟨"java/lang/Throwable", "fillInStackTrace", "(I)Ljava/lang/Throwable;"⟩, 6) := ⟨⟨by decide +kernel, by decide +kernel⟩, List.mem_of_getElem? (i := 252) (by decide +kernel), List.mem_of_getElem? (i := 250) (by decide +kernel), List.mem_of_getElem? (i := 251) (by decide +kernel)⟩
theorem lw_p4 : lw_okq (⟨"Zfsmill", "valueNow", "(II)I"⟩, 6) := ⟨⟨by decide +kernel, by decide +kernel⟩, List.mem_of_getElem? (i := 14) (by decide +kernel), List.mem_of_getElem? (i := 282) (by decide +kernel), List.mem_of_getElem? (i := 283) (by decide +kernel)⟩
theorem lw_p5 : lw_okq (⟨"Zfsmill", "isUnreadable", "(I)Z"⟩, 6) := ⟨⟨by decide +kernel, by decide +kernel⟩, List.mem_of_getElem? (i := 14) (by decide +kernel), List.mem_of_getElem? (i := 332) (by decide +kernel), List.mem_of_getElem? (i := 333) (by decide +kernel)⟩
theorem lw_p6 : lw_okq (⟨"Zfsmill", "healUpToGoodCell", "(I)I"⟩, 6) := ⟨⟨by decide +kernel, by decide +kernel⟩, List.mem_of_getElem? (i := 14) (by decide +kernel), List.mem_of_getElem? (i := 352) (by decide +kernel), List.mem_of_getElem? (i := 353) (by decide +kernel)⟩
theorem lw_p7 : lw_okq (⟨"Zfsmill", "resilver", "(II)I"⟩, 6) := ⟨⟨by decide +kernel, by decide +kernel⟩, List.mem_of_getElem? (i := 14) (by decide +kernel), List.mem_of_getElem? (i := 412) (by decide +kernel), List.mem_of_getElem? (i := 413) (by decide +kernel)⟩
theorem lw_p8 : lw_okq (⟨"Zfsmill", "copyToSide", "(III)I"⟩, 6) := ⟨⟨by decide +kernel, by decide +kernel⟩, List.mem_of_getElem? (i := 14) (by decide +kernel), List.mem_of_getElem? (i := 424) (by decide +kernel), List.mem_of_getElem? (i := 425) (by decide +kernel)⟩
theorem lw_p9 : lw_okq (⟨"Zfsmill", "resilverFile", "(III)I"⟩, 6) := ⟨⟨by decide +kernel, by decide +kernel⟩, List.mem_of_getElem? (i := 14) (by decide +kernel), List.mem_of_getElem? (i := 430) (by decide +kernel), List.mem_of_getElem? (i := 431) (by decide +kernel)⟩
theorem lw_p10 : lw_okq (⟨"Zfsmill", "choosePlaces", "()Z"⟩, 6) := ⟨⟨by decide +kernel, by decide +kernel⟩, List.mem_of_getElem? (i := 14) (by decide +kernel), List.mem_of_getElem? (i := 566) (by decide +kernel), List.mem_of_getElem? (i := 567) (by decide +kernel)⟩
theorem lw_p11 : lw_okq (⟨"Zfsmill", "chooseForFile", "(I)Z"⟩, 6) := ⟨⟨by decide +kernel, by decide +kernel⟩, List.mem_of_getElem? (i := 14) (by decide +kernel), List.mem_of_getElem? (i := 581) (by decide +kernel), List.mem_of_getElem? (i := 582) (by decide +kernel)⟩
theorem lw_p12 : lw_okq (⟨"Zfsmill$Choice", "takeBeside", "(LZfsmill$Cells;I)I"⟩, 4) := ⟨⟨by decide +kernel, by decide +kernel⟩, List.mem_of_getElem? (i := 83) (by decide +kernel), List.mem_of_getElem? (i := 590) (by decide +kernel), List.mem_of_getElem? (i := 591) (by decide +kernel)⟩
theorem lw_p13 : lw_okq (⟨"Zfsmill$Choice", "roomiestBeside", "(I)I"⟩, 4) := ⟨⟨by decide +kernel, by decide +kernel⟩, List.mem_of_getElem? (i := 83) (by decide +kernel), List.mem_of_getElem? (i := 594) (by decide +kernel), List.mem_of_getElem? (i := 595) (by decide +kernel)⟩
theorem lw_p14 : lw_okq (⟨"Zfsmill", "hasData", "(I)Z"⟩, 6) := ⟨⟨by decide +kernel, by decide +kernel⟩, List.mem_of_getElem? (i := 14) (by decide +kernel), List.mem_of_getElem? (i := 603) (by decide +kernel), List.mem_of_getElem? (i := 604) (by decide +kernel)⟩
theorem lw_p15 : lw_okq (⟨"Zfsmill", "hasDataAnywhere", "()Z"⟩, 6) := ⟨⟨by decide +kernel, by decide +kernel⟩, List.mem_of_getElem? (i := 14) (by decide +kernel), List.mem_of_getElem? (i := 607) (by decide +kernel), List.mem_of_getElem? (i := 608) (by decide +kernel)⟩
def lw_privs_1 : List (MethodName × Nat) := [(⟨"Zfsmill", "canFetch", "(I)Z"⟩, 6), (⟨"Zfsmill", "healEveryCell", "(I)I"⟩, 6), (⟨"Zfsmill", "scrubFile", "(I)I"⟩, 6), (⟨"java/lang/Throwable", "fillInStackTrace", "(I)Ljava/lang/Throwable;"⟩, 6), (⟨"Zfsmill", "valueNow", "(II)I"⟩, 6), (⟨"Zfsmill", "isUnreadable", "(I)Z"⟩, 6), (⟨"Zfsmill", "healUpToGoodCell", "(I)I"⟩, 6), (⟨"Zfsmill", "resilver", "(II)I"⟩, 6), (⟨"Zfsmill", "copyToSide", "(III)I"⟩, 6), (⟨"Zfsmill", "resilverFile", "(III)I"⟩, 6), (⟨"Zfsmill", "choosePlaces", "()Z"⟩, 6), (⟨"Zfsmill", "chooseForFile", "(I)Z"⟩, 6), (⟨"Zfsmill$Choice", "takeBeside", "(LZfsmill$Cells;I)I"⟩, 4), (⟨"Zfsmill$Choice", "roomiestBeside", "(I)I"⟩, 4), (⟨"Zfsmill", "hasData", "(I)Z"⟩, 6), (⟨"Zfsmill", "hasDataAnywhere", "()Z"⟩, 6)]
theorem lw_r1 : ∀ q ∈ lw_privs_1, lw_okq q := List.forall_mem_cons.mpr ⟨lw_p0, List.forall_mem_cons.mpr ⟨lw_p1, List.forall_mem_cons.mpr ⟨lw_p2, List.forall_mem_cons.mpr ⟨lw_p3, List.forall_mem_cons.mpr ⟨lw_p4, List.forall_mem_cons.mpr ⟨lw_p5, List.forall_mem_cons.mpr ⟨lw_p6, List.forall_mem_cons.mpr ⟨lw_p7, List.forall_mem_cons.mpr ⟨lw_p8, List.forall_mem_cons.mpr ⟨lw_p9, List.forall_mem_cons.mpr ⟨lw_p10, List.forall_mem_cons.mpr ⟨lw_p11, List.forall_mem_cons.mpr ⟨lw_p12, List.forall_mem_cons.mpr ⟨lw_p13, List.forall_mem_cons.mpr ⟨lw_p14, List.forall_mem_cons.mpr ⟨lw_p15, fun _ h => absurd h List.not_mem_nil⟩⟩⟩⟩⟩⟩⟩⟩⟩⟩⟩⟩⟩⟩⟩⟩
theorem lw_p16 : lw_okq (⟨"Zfsmill", "writeChanges", "()I"⟩, 6) := ⟨⟨by decide +kernel, by decide +kernel⟩, List.mem_of_getElem? (i := 14) (by decide +kernel), List.mem_of_getElem? (i := 612) (by decide +kernel), List.mem_of_getElem? (i := 613) (by decide +kernel)⟩
theorem lw_p17 : lw_okq (⟨"Zfsmill", "writeFile", "(I)I"⟩, 6) := ⟨⟨by decide +kernel, by decide +kernel⟩, List.mem_of_getElem? (i := 14) (by decide +kernel), List.mem_of_getElem? (i := 616) (by decide +kernel), List.mem_of_getElem? (i := 617) (by decide +kernel)⟩
theorem lw_p18 : lw_okq (⟨"Zfsmill", "repoint", "(II)I"⟩, 6) := ⟨⟨by decide +kernel, by decide +kernel⟩, List.mem_of_getElem? (i := 14) (by decide +kernel), List.mem_of_getElem? (i := 625) (by decide +kernel), List.mem_of_getElem? (i := 626) (by decide +kernel)⟩
theorem lw_p19 : lw_okq (⟨"Zfsmill", "freeWhatIsNotPointedTo", "()V"⟩, 6) := ⟨⟨by decide +kernel, by decide +kernel⟩, List.mem_of_getElem? (i := 14) (by decide +kernel), List.mem_of_getElem? (i := 662) (by decide +kernel), List.mem_of_getElem? (i := 663) (by decide +kernel)⟩
def lw_privs_2 : List (MethodName × Nat) := [(⟨"Zfsmill", "writeChanges", "()I"⟩, 6), (⟨"Zfsmill", "writeFile", "(I)I"⟩, 6), (⟨"Zfsmill", "repoint", "(II)I"⟩, 6), (⟨"Zfsmill", "freeWhatIsNotPointedTo", "()V"⟩, 6)]
theorem lw_r2 : ∀ q ∈ lw_privs_2, lw_okq q := List.forall_mem_cons.mpr ⟨lw_p16, List.forall_mem_cons.mpr ⟨lw_p17, List.forall_mem_cons.mpr ⟨lw_p18, List.forall_mem_cons.mpr ⟨lw_p19, fun _ h => absurd h List.not_mem_nil⟩⟩⟩⟩
def lw_privs : List (MethodName × Nat) := lw_privs_1 ++ (lw_privs_2)
def lw_tbl : List Cond := k2_sels lw_privs ++ tables_1
theorem lw_privs_ok : ∀ q ∈ lw_privs, lw_okq q := by
  show ∀ q ∈ lw_privs_1 ++ (lw_privs_2), lw_okq q
  exact List.forall_mem_append.mpr ⟨lw_r1, lw_r2⟩
-- ===== end of PART A; then your names; then what follows =====
end
section
/-! ===== BEGIN words of one list among another's, by their places ===== -/
theorem goodIn_r {big : List Cond} (ws : List Cond) (ps : List Nat) (hp : ws = ps.filterMap (fun i => big[i]?)) (h : ws.all goodWord = true) : GoodIn big ws := by
  intro w hw
  have h1 := List.all_eq_true.mp h w hw
  rw [hp] at hw
  obtain ⟨i, -, hi⟩ := List.mem_filterMap.mp hw
  have hm : w ∈ big := by first | exact List.mem_of_getElem? hi | exact List.getElem?_mem hi
  exact ⟨hm, good_of_word h1⟩
theorem goodIn_app {big a b : List Cond} (ha : GoodIn big a) (hb : GoodIn big b) : GoodIn big (a ++ b) := fun w h => (List.mem_append.mp h).elim (ha w) (hb w)
theorem goodIn_ca {big a b : List Cond} {c : Cond} (ha : GoodIn big (c :: a)) (hb : GoodIn big b) : GoodIn big (c :: (a ++ b)) := fun w h => (List.mem_cons.mp h).elim (fun e => ha w (List.mem_cons.mpr (Or.inl e))) (fun h => (List.mem_append.mp h).elim (fun h => ha w (List.mem_cons.mpr (Or.inr h))) (hb w))
theorem goodIn_sub {big ws : List Cond} (hm : ∀ w ∈ ws, w ∈ big) (h : ws.all goodWord = true) : GoodIn big ws := fun w hw => ⟨hm w hw, good_of_word (List.all_eq_true.mp h w hw)⟩
/-! ===== END ===== -/

/-! ===== BEGIN exceptions that leave a method, and their catching by the caller (launches without stack traces) ===== -/
section VXA
/-! The laws vx_back, vx_callV, vx_callS, vx_callSW, vx_throw0, vx_throwS follow proofs of the library, with one case more: JvmDerived/Free/Laws.lean (Back.of_free), Shelf42/LK1.lean (callV, callS), Shelf/KitTraced.lean (throwNew0V, throwNewS). -/
/-- where a method has thrown q: the class by its name, the cell, what was written, the world -/
def vx_T (XC : String → State → State → Prop) (st : State) (q : Addr) (t : State) (mc ms : Nat) (free : Addr → Prop) : Prop :=
  ∃ (E : String) (ce : Cell) (L : List Loc), XC E st t ∧ t.heap[q]? = some ce ∧ ce.vm = .none ∧ st.vm.findClass E = some ce.cls ∧ st.WarmedH t.vm ∧ st.sameButNew ({ t with vm := st.vm } : State) L mc ms ∧ ∀ z ∈ L, free z.base
def vx_Q (Qc : Array Value → State → Outcome → State → Prop) (XC : String → State → State → Prop) (mc ms : Nat) (free : Addr → Prop) : Array Value → State → Outcome → State → Prop := fun a st o t =>
  (Qc a st o t ∧ ∃ L, FrameEnd st o t L mc ms ∧ ∀ q ∈ L, free q.base) ∨ ∃ q, o = .threw q ∧ vx_T XC st q t mc ms free
/-- a callee that returns or throws -/
def vx_Met (l : Launch) (y : MethodName) (ws : List Cond) (rm : Room) (Pc : Array Value → State → Prop) (Qc : Array Value → State → Outcome → State → Prop) (XC : String → State → State → Prop) (mc ms : Nat) (free : Addr → Prop) : Prop :=
  MetFree l y (headSpec ws rm) Pc (fun _ _ _ _ _ => True) (vx_Q Qc XC mc ms free)
def vx_Post (XC : String → State → State → Prop) (mc ms : Nat) (free : Addr → Prop) : Pt → Array Value → Addr → Pt → Prop := fun A a q B =>
  ∃ (g : JFrame) (mk : MethodId) (t : State) (L : List Loc) (E : String) (ce : Cell), B.U.heap = t.heap ∧ B.U.vm = t.vm ∧ XC E (A.U.calling g mk a) t ∧ t.heap[q]? = some ce ∧ ce.vm = .none ∧ A.U.vm.findClass E = some ce.cls ∧ B.locs = A.locs ++ L ∧ (∀ z ∈ L, free z.base) ∧ B.cells = A.cells + mc ∧ B.slots = A.slots + ms
def vx_Back (l : Launch) (R : Room) (p : Program) (e : Env) (below : List Frame) (s : State) (sargs : Array Value) (y : MethodName) (len W9 : Nat)
    (Pre : Pt → Array Value → Prop) (Post : Pt → Array Value → Option Value → Pt → Prop) (PostX : Pt → Array Value → Addr → Pt → Prop) : Prop :=
  ∀ (m : MethodId) (meth : Method) (c : Code) (A : Pt) (g : JFrame) (ig : Instr) (mk : MethodId) (a : Array Value),
    Stand p l e R s m sargs below meth c A.U A.locs A.cells A.slots → g.method = m → g.locals.size = c.maxLocals → decode c.code g.pc = .ok (ig, len) →
    2 * g.monitorRoom + (g.stack.map fun v => v.category).sum ≤ W9 → A.U.methodNamed? y = some mk → Pre A a →
    (∃ (v : Option Value) (B : Pt), Stand p l e R s m sargs below meth c B.U B.locs B.cells B.slots ∧ Post A a v B ∧
      Steps p.tables e below (doInvoke e (A.U.setTop g) [] mk a).1 (B.U.setTop { g with pc := g.pc + len, stack := v.toList ++ g.stack })) ∨
    (∃ (q : Addr) (B : Pt), Stand p l e R s m sargs below meth c B.U B.locs B.cells B.slots ∧ PostX A a q B ∧
      Steps p.tables e below (doInvoke e (A.U.setTop g) [] mk a).1 ((B.U.setTop g).pushFrame (.throwing q)))
section Payer
variable {l : Launch} {R : Room} {p : Program} {e : Env} {below : List Frame} {s : State} {sargs : Array Value} {y : MethodName} {len W9 : Nat}
theorem vx_back {ws : List Cond} {rm : Room} {Pc : Array Value → State → Prop} {Qc : Array Value → State → Outcome → State → Prop} {XC : String → State → State → Prop} {mc ms : Nat} {free : Addr → Prop} {bytes : ByteArray} {maxL : Nat} {ret : Option FieldType}
    (hM : vx_Met l y ws rm Pc Qc XC mc ms free) (hblind : FrameBlind Pc) (hrc : rm.cells = mc) (hrs : rm.slots = ms)
    (hframes : rm.frames + 1 ≤ R.frames) (hlocals : W9 + (maxL + 11) + rm.locals ≤ R.locals)
    (hws : ∀ w ∈ ws, ∀ a' U, s.WarmedH U.vm → w.before a' U = true) (hcode : Cond.code y bytes maxL ret ∈ ws) (hinit : ∀ a' U, s.WarmedH U.vm → (Cond.initialized y.cls).before a' U = true) :
    vx_Back l R p e below s sargs y len W9 (PreOf R mc ms Pc) (PostOf Qc mc ms free) (vx_Post XC mc ms free) := by
  intro m meth c A g ig mk a X hg hsize hdg hW hn hp
  have h1 : (headSpec ws rm).pre.before a A.U = true := atoms_intro fun w hw => hws w hw _ _ X.warmed
  have h2 : (Cond.code y bytes maxL ret).before a A.U = true := hws _ hcode _ _ X.warmed
  have h3 : (Cond.initialized y.cls).before a A.U = true := hinit _ _ X.warmed
  have h4 : A.cells + (headSpec ws rm).room.cells ≤ R.cells := by rw [show (headSpec ws rm).room.cells = mc from hrc]; exact hp.1
  have h5 : A.slots + (headSpec ws rm).room.slots ≤ R.slots := by rw [show (headSpec ws rm).room.slots = ms from hrs]; exact hp.2.1
  have hPc : Pc a (A.U.calling g mk a) := hblind _ _ _ _ hp.2.2
  obtain ⟨U, Ls, c0, s0⟩ := A
  dsimp only [Pt.U, Pt.locs, Pt.cells, Pt.slots] at h1 h2 h3 h4 h5 X hn hPc ⊢
  obtain ⟨methY, cY, hmY, hcY, -, hlY, -, -, -, -⟩ := Cond.code_spec hn h2
  obtain ⟨kY, hkY, -⟩ := className_of_methodNamed hn
  have hinitY : kY.init = .initialized := Cond.initialized_spec (findClass_of_methodNamed hn) hkY h3
  have h : At U g.method c below := by rw [hg]; exact X.here
  have hlocals9 : W9 + (maxL + 11) + (headSpec ws rm).room.locals ≤ R.locals := hlocals
  have happ : (headSpec ws rm).appliesLoose y e.platform (U.calling g mk a) = true :=
    Spec.appliesLoose_calling (g := g) h hdg hn hkY hinitY
      (X.room_calling (g := g) (R' := (headSpec ws rm).room) hsize hmY hcY hframes (by rw [hlY]; omega) h4 h5) h1
  obtain ⟨mid, hmid⟩ := h.above
  have hfr : (U.setTop g).frames = (.java g :: mid) ++ below := by rw [State.frames_setTop' g h.top, hmid]; rfl
  obtain ⟨o, s₂, hsteps, -, hend, hq⟩ := Steps.callFree hM p X.admits X.cas X.clock (acts := []) hfr happ hPc trivial
  have hq' : vx_Q Qc XC mc ms free a (U.calling g mk a) o s₂ := hq
  rw [State.frames_setTop' g h.top] at hend
  obtain ⟨g₀, hg0⟩ := Option.isSome_iff_exists.mp h.top
  obtain ⟨r, hr⟩ := State.topJava?_eq_some.mp hg0
  have hr' : (({ U with heap := s₂.heap, slotsUsed := s₂.slotsUsed } : State).setVm s₂.vm).frames = .java g₀ :: r := hr
  rcases hq' with ⟨hqc, L, hfe, hL⟩ | ⟨q, rfl, E, ce, L, hx, hce, hcv, hcl, hW₂, hsm, hL⟩
  · obtain ⟨⟨v, rfl⟩, hW₂, e2, q2, q3, q4, q5, q6⟩ := id hfe
    have e3 : s₂ = ({ (U.calling g mk a).setFrames s₂.frames with heap := s₂.heap, slotsUsed := s₂.slotsUsed } : State).setVm s₂.vm := by
      have : s₂ = ({ s₂ with vm := (U.calling g mk a).vm } : State).setVm s₂.vm := rfl
      rw [e2] at this
      exact this
    obtain ⟨c₂, i₂, len₂, hc₂, hd₂, hf₂⟩ := hend
    have hW' : U.WarmedH s₂.vm := hW₂
    have hcc : c₂ = c := by
      have h1 : s₂.code? g.method = U.code? g.method := by
        rw [State.code?_eq, State.code?_eq, hW'.alike.method?]
      exact Option.some.inj (hc₂.symm.trans (h1.trans h.code))
    subst hcc
    have hlen : len₂ = len := by rw [hdg] at hd₂; cases hd₂; rfl
    subst hlen
    have hs₂ : s₂ = (({ U with heap := s₂.heap, slotsUsed := s₂.slotsUsed } : State).setVm s₂.vm).setTop { g with pc := g.pc + len₂, stack := v.toList ++ g.stack } := by
      refine e3.trans ?_
      rw [hf₂, State.calling_eq h.top, State.setFrames_setFrames, State.setTop_of_frames _ hr', hr]
      rfl
    have hsame : U.sameButNew ({ U with heap := s₂.heap, slotsUsed := s₂.slotsUsed } : State) L mc ms := by
      refine ⟨?_, q2, q3, q4, q5, q6⟩
      obtain ⟨t, ht, -⟩ := State.frames_cons hr
      show ({ U with heap := s₂.heap, slotsUsed := s₂.slotsUsed } : State) = { U.setFrames U.frames with heap := s₂.heap, slotsUsed := s₂.slotsUsed }
      rw [State.setFrames_self ht]
    subst hg
    refine Or.inl ⟨v, ⟨(({ U with heap := s₂.heap, slotsUsed := s₂.slotsUsed } : State).setVm s₂.vm), Ls ++ L, c0 + mc, s0 + ms⟩,
      ⟨X.admits, X.cas, X.clock, X.frames, X.room, X.hears, X.method, X.code, (X.here.setHeapUsed s₂.heap s₂.slotsUsed).setVm hW'.alike, X.tail, State.WarmedH.trans X.warmed hW', X.limits, X.bytes, X.same.trans (hsame.setVm s.vm)⟩,
      ⟨g, mk, s₂, L, rfl, rfl, hqc, rfl, hL, rfl, rfl⟩, ?_⟩
    show Steps p.tables e below _ ((({ U with heap := s₂.heap, slotsUsed := s₂.slotsUsed } : State).setVm s₂.vm).setTop { g with pc := g.pc + len₂, stack := v.toList ++ g.stack })
    rw [← hs₂]
    exact hsteps
  · obtain ⟨e2, q2, q3, q4, q5, q6⟩ := id hsm
    have e3 : s₂ = ({ (U.calling g mk a).setFrames s₂.frames with heap := s₂.heap, slotsUsed := s₂.slotsUsed } : State).setVm s₂.vm := by
      have : s₂ = ({ s₂ with vm := (U.calling g mk a).vm } : State).setVm s₂.vm := rfl
      rw [e2] at this
      exact this
    have hf₂ : s₂.frames = .throwing q :: .java g :: U.frames.tail := hend
    have hW' : U.WarmedH s₂.vm := hW₂
    have hs₂ : s₂ = ((({ U with heap := s₂.heap, slotsUsed := s₂.slotsUsed } : State).setVm s₂.vm).setTop g).pushFrame (.throwing q) := by
      refine e3.trans ?_
      rw [hf₂, State.calling_eq h.top, State.setFrames_setFrames, State.pushFrame, State.frames_setTop _ hr', State.setTop_of_frames _ hr', State.setFrames_setFrames, hr]
      rfl
    have hsame : U.sameButNew ({ U with heap := s₂.heap, slotsUsed := s₂.slotsUsed } : State) L mc ms := by
      refine ⟨?_, q2, q3, q4, q5, q6⟩
      obtain ⟨t, ht, -⟩ := State.frames_cons hr
      show ({ U with heap := s₂.heap, slotsUsed := s₂.slotsUsed } : State) = { U.setFrames U.frames with heap := s₂.heap, slotsUsed := s₂.slotsUsed }
      rw [State.setFrames_self ht]
    subst hg
    refine Or.inr ⟨q, ⟨(({ U with heap := s₂.heap, slotsUsed := s₂.slotsUsed } : State).setVm s₂.vm), Ls ++ L, c0 + mc, s0 + ms⟩,
      ⟨X.admits, X.cas, X.clock, X.frames, X.room, X.hears, X.method, X.code, (X.here.setHeapUsed s₂.heap s₂.slotsUsed).setVm hW'.alike, X.tail, State.WarmedH.trans X.warmed hW', X.limits, X.bytes, X.same.trans (hsame.setVm s.vm)⟩,
      ⟨g, mk, s₂, L, E, ce, rfl, rfl, hx, hce, hcv, hcl, rfl, hL, rfl, rfl⟩, ?_⟩
    show Steps p.tables e below _ (((({ U with heap := s₂.heap, slotsUsed := s₂.slotsUsed } : State).setVm s₂.vm).setTop g).pushFrame (.throwing q))
    rw [← hs₂]
    exact hsteps
end Payer
section Calls
variable {p : Program} {l : Launch} {e : Env} {R : Room} {s : State} {m : MethodId} {args : Array Value} {below : List Frame} {meth : Method} {c : Code} {T : State} {locs : List Loc} {cells slots : Nat}
theorem vx_callV (X : Stand p l e R s m args below meth c T locs cells slots) (hexec : p.tables.exec = Jvm.exec) {own C : String} {index : Nat} {y : MethodName} {bytes : ByteArray} {maxL : Nat} {ret : Option FieldType}
    (hown : s.vm.findClass own = some m.cls) (hlink : (Cond.methodLink own index y).before args s = true) (hinst : (Cond.instanceMethod y).before args s = true) (hsel : (Cond.selects C y y).before args s = true)
    (hcode : (Cond.code y bytes maxL ret).before args s = true) (hy : y.cls ≠ "java/lang/invoke/MethodHandle" ∧ y.cls ≠ "java/lang/invoke/VarHandle")
    {W9 : Nat} {Pre : Pt → Array Value → Prop} {Post : Pt → Array Value → Option Value → Pt → Prop} {PostX : Pt → Array Value → Addr → Pt → Prop} (hK : vx_Back l R p e below s args y 3 W9 Pre Post PostX)
    {b : Addr} {cellB : Cell} (hcell : T.heap[b]? = some cellB) (hobj : cellB.vm.isStatics = false) (hcls : s.vm.findClass C = some cellB.cls)
    {g : JFrame} (hg : g.method = m) (hsize : g.locals.size = c.maxLocals) {argsL rest : List Value} (hlen : ∀ sig, parseMethodDescriptor y.desc = some sig → argsL.length = sig.parameters.length)
    (hstack : g.stack = argsL.reverse ++ .ref b :: rest) (hW : 2 * g.monitorRoom + (rest.map fun v => v.category).sum ≤ W9) (hdg : decode c.code g.pc = .ok (.invokevirtual index, 3))
    (hpre : ∀ vm₁, s.WarmedH vm₁ → Pre ⟨T.setVm vm₁, locs, cells, slots⟩ (Value.ref b :: argsL).toArray) :
    (∃ (v : Option Value) (vm₁ : Vm) (B : Pt), s.WarmedH vm₁ ∧ Stand p l e R s m args below meth c B.U B.locs B.cells B.slots ∧ Post ⟨T.setVm vm₁, locs, cells, slots⟩ (Value.ref b :: argsL).toArray v B ∧
      ∀ target, Steps p.tables e below (B.U.setTop { g with pc := g.pc + 3, stack := v.toList ++ rest }) target → Steps p.tables e below (T.setTop g) target) ∨
    (∃ (q : Addr) (vm₁ : Vm) (B : Pt), s.WarmedH vm₁ ∧ Stand p l e R s m args below meth c B.U B.locs B.cells B.slots ∧ PostX ⟨T.setVm vm₁, locs, cells, slots⟩ (Value.ref b :: argsL).toArray q B ∧
      Steps p.tables e below (T.setTop g) ((B.U.setTop { g with stack := rest }).pushFrame (.throwing q))) := by
  obtain ⟨mk, methM, hnamed, hmethM, hstM, habM⟩ := Cond.instanceMethod_spec hinst
  obtain ⟨methM', cM, hmethM', -, -, -, -, -, -, hsigM⟩ := Cond.code_spec hnamed hcode
  cases hmethM.symm.trans hmethM'
  obtain ⟨c2, r2, m2, q1, q2, q3, q4, kP, hkP, hkPi⟩ := Cond.selects_spec hsel
  cases hcls.symm.trans q1
  cases (State.methodFound?_of_named hnamed hy).symm.trans q2
  cases hnamed.symm.trans q3
  have hselP : selectMethod e.platform s.vm cellB.cls mk = .method mk := by rw [Launch.admits_selectMethod X.admits]; exact q4
  obtain ⟨vm₁, X₁, hstep₁⟩ := X.invokevirtual hexec hown hlink hnamed hmethM hstM hkP hkPi hy (a := b) (cell := cellB) hcell
    (fun z h => by rw [h] at hobj; cases hobj) hselP hmethM habM hkP hkPi (g := g) hg (argsL := argsL) (rest := rest) (hlen _ hsigM) hstack hdg
  rcases hK m meth c ⟨T.setVm vm₁, locs, cells, slots⟩ { g with stack := rest } (.invokevirtual index) mk (Value.ref b :: argsL).toArray X₁ hg hsize hdg hW (X₁.named hnamed) (hpre vm₁ X₁.warmed) with ⟨v, B, X', hpost, hsteps⟩ | ⟨q, B, X', hpost, hsteps⟩
  · exact Or.inl ⟨v, vm₁, B, X₁.warmed, X', hpost, fun target h => hstep₁ _ fun acts => by rw [doInvoke_state]; exact hsteps.trans h⟩
  · exact Or.inr ⟨q, vm₁, B, X₁.warmed, X', hpost, hstep₁ _ fun acts => by rw [doInvoke_state]; exact hsteps⟩
theorem vx_callS (X : Stand p l e R s m args below meth c T locs cells slots) (hexec : p.tables.exec = Jvm.exec) {own : String} {index : Nat} {y : MethodName} {bytes : ByteArray} {maxL : Nat} {ret : Option FieldType}
    (hown : s.vm.findClass own = some m.cls) (hlink : (Cond.methodLink own index y).before args s = true) (hstat : (Cond.static y).before args s = true) (hinit : (Cond.initialized y.cls).before args s = true)
    (hcode : (Cond.code y bytes maxL ret).before args s = true) (hy : y.cls ≠ "java/lang/invoke/MethodHandle" ∧ y.cls ≠ "java/lang/invoke/VarHandle")
    {W9 : Nat} {Pre : Pt → Array Value → Prop} {Post : Pt → Array Value → Option Value → Pt → Prop} {PostX : Pt → Array Value → Addr → Pt → Prop} (hK : vx_Back l R p e below s args y 3 W9 Pre Post PostX)
    {g : JFrame} (hg : g.method = m) (hsize : g.locals.size = c.maxLocals) {argsL rest : List Value} (hlen : ∀ sig, parseMethodDescriptor y.desc = some sig → argsL.length = sig.parameters.length)
    (hstack : g.stack = argsL.reverse ++ rest) (hW : 2 * g.monitorRoom + (rest.map fun v => v.category).sum ≤ W9) (hdg : decode c.code g.pc = .ok (.invokestatic index, 3))
    (hpre : ∀ vm₁, s.WarmedH vm₁ → Pre ⟨T.setVm vm₁, locs, cells, slots⟩ argsL.toArray) :
    (∃ (v : Option Value) (vm₁ : Vm) (B : Pt), s.WarmedH vm₁ ∧ Stand p l e R s m args below meth c B.U B.locs B.cells B.slots ∧ Post ⟨T.setVm vm₁, locs, cells, slots⟩ argsL.toArray v B ∧
      ∀ target, Steps p.tables e below (B.U.setTop { g with pc := g.pc + 3, stack := v.toList ++ rest }) target → Steps p.tables e below (T.setTop g) target) ∨
    (∃ (q : Addr) (vm₁ : Vm) (B : Pt), s.WarmedH vm₁ ∧ Stand p l e R s m args below meth c B.U B.locs B.cells B.slots ∧ PostX ⟨T.setVm vm₁, locs, cells, slots⟩ argsL.toArray q B ∧
      Steps p.tables e below (T.setTop g) ((B.U.setTop { g with stack := rest }).pushFrame (.throwing q))) := by
  obtain ⟨mk, hnamed⟩ := Cond.code_named hcode
  obtain ⟨methM, cM, hmethM, -, -, -, -, -, -, hsigM⟩ := Cond.code_spec hnamed hcode
  have hstatic : methM.isStatic = true := Cond.static_spec hnamed hmethM hstat
  obtain ⟨kP, hkP, -⟩ := className_of_methodNamed hnamed
  have hinitP : kP.init = .initialized := Cond.initialized_spec (findClass_of_methodNamed hnamed) hkP hinit
  obtain ⟨vm₁, X₁, hstep₁⟩ := X.invokestatic hexec hown hlink hnamed hmethM hstatic hkP hinitP hy (g := g) hg (argsL := argsL) (rest := rest) (hlen _ hsigM) hstack hdg
  rcases hK m meth c ⟨T.setVm vm₁, locs, cells, slots⟩ { g with stack := rest } (.invokestatic index) mk argsL.toArray X₁ hg hsize hdg hW (X₁.named hnamed) (hpre vm₁ X₁.warmed) with ⟨v, B, X', hpost, hsteps⟩ | ⟨q, B, X', hpost, hsteps⟩
  · exact Or.inl ⟨v, vm₁, B, X₁.warmed, X', hpost, fun target h => hstep₁ _ fun acts => by rw [doInvoke_state]; exact hsteps.trans h⟩
  · exact Or.inr ⟨q, vm₁, B, X₁.warmed, X', hpost, hstep₁ _ fun acts => by rw [doInvoke_state]; exact hsteps⟩
end Calls
theorem vx_cls {s : State} {T : State} {vm₁ : Vm} {E : String} {k : ClassId} (hW : s.WarmedH vm₁) (h : (T.setVm vm₁).vm.findClass E = some k) : s.vm.findClass E = some k := by
  have h1 : vm₁.findClass E = some k := h
  rw [hW.alike.findClass] at h1
  exact h1
/-- the method's frame g, with q thrown over it -/
def vx_W (p : Program) (l : Launch) (e : Env) (R : Room) (s : State) (m : MethodId) (args : Array Value) (below : List Frame) (meth : Method) (c : Code) (H : Heap) (locs : List Loc) (cells slots : Nat) (Q : State → Prop) (g : JFrame) (q : Addr) : Prop :=
  ∀ T : State, T.heap = H → Stand p l e R s m args below meth c T locs cells slots → ∃ t, Steps p.tables e below ((T.setTop g).pushFrame (.throwing q)) t ∧ Q t
def vx_Run (p : Program) (l : Launch) (e : Env) (R : Room) (s : State) (m : MethodId) (args : Array Value) (below : List Frame) (meth : Method) (c : Code) (H : Heap) (locs : List Loc) (cells slots mc ms : Nat) (g : JFrame) (rest : List Value) (Qa : State → Outcome → State → Prop) (XC : String → State → State → Prop) (free : Addr → Prop) : Prop :=
  ∀ T : State, T.heap = H → Stand p l e R s m args below meth c T locs cells slots →
    (∃ (v : Option Value) (st₀ t T' : State) (L : List Loc), st₀.heap = H ∧ Stand p l e R s m args below meth c T' (locs ++ L) (cells + mc) (slots + ms) ∧ (∀ q ∈ L, free q.base) ∧ T'.heap = t.heap ∧ T'.vm = t.vm ∧ Qa st₀ (.returned v) t ∧
      Goes p e below T g T' { g with pc := g.pc + 3, stack := v.toList ++ rest }) ∨
    (∃ (q : Addr) (st₀ t T' : State) (L : List Loc) (E : String) (ce : Cell), st₀.heap = H ∧ Stand p l e R s m args below meth c T' (locs ++ L) (cells + mc) (slots + ms) ∧ (∀ z ∈ L, free z.base) ∧ T'.heap = t.heap ∧ T'.vm = t.vm ∧ XC E st₀ t ∧ t.heap[q]? = some ce ∧ ce.vm = .none ∧ s.vm.findClass E = some ce.cls ∧
      Steps p.tables e below (T.setTop g) ((T'.setTop { g with stack := rest }).pushFrame (.throwing q)))
def vx_X {S : Type} (px : S → Prop) (B : String → S → State → Prop) (A : Nat → Prop) : String → State → State → Prop := fun E st t => ∃ u : S, px u ∧ B E u t ∧ va_F A st t
section Runs
variable {p : Program} {l : Launch} {e : Env} {R : Room} {s : State} {m : MethodId} {args : Array Value} {below : List Frame} {meth : Method} {c : Code} {H : Heap} {locs : List Loc} {cells slots : Nat}
variable {y : MethodName} {bytes cc : ByteArray} {maxL nL mc ms n index : Nat} {ret : Option FieldType} {ws : List Cond} {rm : Room} {Pc : Array Value → State → Prop} {Qc : Array Value → State → Outcome → State → Prop} {XC : String → State → State → Prop} {free : Addr → Prop} {Ts : List Cond} {own C : String} {b : Addr} {As rest : List Value} {g : JFrame}
theorem vx_callBack (cb : CallB R s args own index y bytes maxL ret ws rm mc ms n) (hM : vx_Met l y ws rm Pc Qc XC mc ms free) (hbl : FrameBlind Pc) : vx_Back l R p e below s args y 3 8 (PreOf R mc ms Pc) (PostOf Qc mc ms free) (vx_Post XC mc ms free) := by
  obtain ⟨hrc, hrs, hfr, hlo, hws, hcw, -, hini, -⟩ := cb
  exact vx_back (bytes := bytes) (maxL := maxL) (ret := ret) hM hbl hrc hrs hfr hlo hws hcw (fun a' U hW => word_at hW (Or.inl (by first | rfl | simp [Cond.onTables, Cond.keeps, Cond.steady])) hini)
theorem vx_runV (S : CallFix p m c cc nL s args Ts own) (hM : vx_Met l y ws rm Pc Qc XC mc ms free) (cw : CallW R s args own C index y bytes maxL ret ws rm mc ms n) (hp : PreV s H C b Pc As)
    (hg : g.method = m) (hn : As.length = n) (hsize : g.locals.size = nL) (hstack : g.stack = As.reverse ++ .ref b :: rest) (hW : 2 * g.monitorRoom + (rest.map fun v => v.category).sum ≤ 8) (hdg : decode cc g.pc = .ok (.invokevirtual index, 3)) (hf : cells + mc ≤ R.cells ∧ slots + ms ≤ R.slots) :
    vx_Run p l e R s m args below meth c H locs cells slots mc ms g rest (Qc (Value.ref b :: As).toArray) XC free := by
  have hK : vx_Back l R p e below s args y 3 8 (PreOf R mc ms Pc) (PostOf Qc mc ms free) (vx_Post XC mc ms free) := vx_callBack cw.1 hM hp.1
  obtain ⟨⟨-, -, -, -, -, -, hcode, -, hy, hlen, hl⟩, hin, hse⟩ := cw
  obtain ⟨hx, hb, hml, ho, -⟩ := S
  obtain ⟨-, ⟨cellB, hcB, hoB, hclB⟩, hPc⟩ := hp
  intro T hT X
  rcases vx_callV X hx (C := C) (bytes := bytes) (maxL := maxL) (ret := ret) ho hl hin hse hcode hy hK (by rw [hT]; exact hcB) hoB hclB hg (hsize.trans hml.symm) (argsL := As) (rest := rest) (fun sig h => hn.trans (hlen sig h)) hstack hW (by rw [hb]; exact hdg)
    (fun vm₁ hW₁ => ⟨hf.1, hf.2, hPc (T.setVm vm₁) hT hW₁⟩) with ⟨v, vm₁, ⟨U', l2, c2, s2⟩, hW₁, X', ⟨g', mk, t, L, e1, e2, hq, h1, hL, h2, h3⟩, st⟩ | ⟨q, vm₁, ⟨U', l2, c2, s2⟩, hW₁, X', ⟨g', mk, t, L, E, ce, e1, e2, hq, hce, hcv, hcl, h1, hL, h2, h3⟩, st⟩
  · dsimp only [Pt.U, Pt.locs, Pt.cells, Pt.slots] at X' e1 e2 h1 h2 h3 st
    subst h1; subst h2; subst h3
    exact Or.inl ⟨v, (T.setVm vm₁).calling g' mk (Value.ref b :: As).toArray, t, U', L, hT, X', hL, e1, e2, hq, st⟩
  · dsimp only [Pt.U, Pt.locs, Pt.cells, Pt.slots] at X' e1 e2 h1 h2 h3 st hcl
    subst h1; subst h2; subst h3
    exact Or.inr ⟨q, (T.setVm vm₁).calling g' mk (Value.ref b :: As).toArray, t, U', L, E, ce, hT, X', hL, e1, e2, hq, hce, hcv, vx_cls hW₁ hcl, st⟩
theorem vx_runS (S : CallFix p m c cc nL s args Ts own) (hM : vx_Met l y ws rm Pc Qc XC mc ms free) (cw : CallB R s args own index y bytes maxL ret ws rm mc ms n ∧ (Cond.static y).before args s = true) (hp : PreS s H Pc As)
    (hg : g.method = m) (hn : As.length = n) (hsize : g.locals.size = nL) (hstack : g.stack = As.reverse ++ rest) (hW : 2 * g.monitorRoom + (rest.map fun v => v.category).sum ≤ 8) (hdg : decode cc g.pc = .ok (.invokestatic index, 3)) (hf : cells + mc ≤ R.cells ∧ slots + ms ≤ R.slots) :
    vx_Run p l e R s m args below meth c H locs cells slots mc ms g rest (Qc As.toArray) XC free := by
  have hK : vx_Back l R p e below s args y 3 8 (PreOf R mc ms Pc) (PostOf Qc mc ms free) (vx_Post XC mc ms free) := vx_callBack cw.1 hM hp.1
  obtain ⟨⟨-, -, -, -, -, -, hcode, hini, hy, hlen, hl⟩, hstt⟩ := cw
  obtain ⟨hx, hb, hml, ho, -⟩ := S
  intro T hT X
  rcases vx_callS X hx (bytes := bytes) (maxL := maxL) (ret := ret) ho hl hstt hini hcode hy hK hg (hsize.trans hml.symm) (argsL := As) (rest := rest) (fun sig h => hn.trans (hlen sig h)) hstack hW (by rw [hb]; exact hdg)
    (fun vm₁ hW₁ => ⟨hf.1, hf.2, hp.2 (T.setVm vm₁) hT hW₁⟩) with ⟨v, vm₁, ⟨U', l2, c2, s2⟩, hW₁, X', ⟨g', mk, t, L, e1, e2, hq, h1, hL, h2, h3⟩, st⟩ | ⟨q, vm₁, ⟨U', l2, c2, s2⟩, hW₁, X', ⟨g', mk, t, L, E, ce, e1, e2, hq, hce, hcv, hcl, h1, hL, h2, h3⟩, st⟩
  · dsimp only [Pt.U, Pt.locs, Pt.cells, Pt.slots] at X' e1 e2 h1 h2 h3 st
    subst h1; subst h2; subst h3
    exact Or.inl ⟨v, (T.setVm vm₁).calling g' mk As.toArray, t, U', L, hT, X', hL, e1, e2, hq, st⟩
  · dsimp only [Pt.U, Pt.locs, Pt.cells, Pt.slots] at X' e1 e2 h1 h2 h3 st hcl
    subst h1; subst h2; subst h3
    exact Or.inr ⟨q, (T.setVm vm₁).calling g' mk As.toArray, t, U', L, E, ce, hT, X', hL, e1, e2, hq, hce, hcv, vx_cls hW₁ hcl, st⟩
end Runs
section Rows
variable {p : Program} {l : Launch} {e : Env} {R : Room} {s : State} {m : MethodId} {args : Array Value} {below : List Frame} {meth : Method} {c : Code} {H : Heap} {locs : List Loc} {cells slots : Nat} {Q : State → Prop}
variable {mc ms : Nat} {free : Addr → Prop} {A0 A1 : Nat → Prop} {H0 : Heap} {a : Array Value} {pc : Nat} {ls : Array Slot} {st0 rest : List Value}
theorem vx_keep {st₀ t T' : State} {L : List Loc} (h0 : st₀.heap = H) (e1 : T'.heap = t.heap) (hS : va_S A0 H0 H locs) (hA : ∀ q, q < H.size → A1 q → A0 q) (hf : ∀ q, free q → A0 q) (hL : ∀ q ∈ L, free q.base) (hF : va_F A1 st₀ t) :
    H.size ≤ T'.heap.size ∧ (∀ q : Nat, q < H.size → ¬ A1 q → T'.heap[q]? = H[q]?) ∧ va_S A0 H0 T'.heap (locs ++ L) := by
  obtain ⟨hz, hk⟩ := hF
  rw [h0] at hz hk
  exact ⟨by rw [e1]; exact hz, fun q h1 h2 => by rw [e1]; exact hk q h1 h2,
    ⟨Nat.le_trans hS.1 (by rw [e1]; exact hz), fun q h1 h2 => by rw [e1, hk q (Nat.lt_of_lt_of_le h1 hS.1) (fun z => h2 (hA q (Nat.lt_of_lt_of_le h1 hS.1) z))]; exact hS.2.1 q h1 h2, fun q hq => by
      rcases List.mem_append.mp hq with h | h
      · exact hS.2.2 q h
      · exact hf _ (hL q h)⟩⟩
theorem vx_calli {S SX : Type} {post : Int32 → S → Prop} {px : SX → Prop} {B : S → State → Prop} {BX : String → SX → State → Prop} {AX : Nat → Prop} (hr : vx_Run p l e R s m args below meth c H locs cells slots mc ms (F0 m pc ls st0) rest (va_Qi post B A1 a) (vx_X px BX AX) free) (hS : va_S A0 H0 H locs) (hA : ∀ q, q < H.size → A1 q → A0 q) (hf : ∀ q, free q → A0 q) (hAX : ∀ q, q < H.size → AX q → A0 q)
    (kx : ∀ (E : String) (ce : Cell) (q9 : Addr) (u : SX) (t : State) (H1 : Heap) (locs1 : List Loc), t.heap = H1 → s.vm.Alike t.vm → px u → BX E u t → H.size ≤ H1.size → (∀ q : Nat, q < H.size → ¬ AX q → H1[q]? = H[q]?) → va_S A0 H0 H1 locs1 → H1[q9]? = some ce → ce.vm = .none → s.vm.findClass E = some ce.cls → vx_W p l e R s m args below meth c H1 locs1 (cells + mc) (slots + ms) Q (F0 m pc ls rest) q9)
    (kk : ∀ (r : Int32) (u : S) (t : State) (H1 : Heap) (locs1 : List Loc), t.heap = H1 → s.vm.Alike t.vm → post r u → B u t → H.size ≤ H1.size → (∀ q : Nat, q < H.size → ¬ A1 q → H1[q]? = H[q]?) → va_S A0 H0 H1 locs1 → W p l e R s m args below meth c H1 locs1 (cells + mc) (slots + ms) Q (F0 m (pc + 3) ls (.int r :: rest))) : W p l e R s m args below meth c H locs cells slots Q (F0 m pc ls st0) := by
  intro T hT X
  rcases hr T hT X with ⟨v, st₀, t, T', L, h0, X', hL, e1, e2, ⟨⟨r, u, hv, hp, hb⟩, hF⟩, st⟩ | ⟨q, st₀, t, T', L, E, ce, h0, X', hL, e1, e2, ⟨u, hp, hb, hF⟩, hce, hcv, hcl, st⟩
  · cases hv
    obtain ⟨k1, k2, k3⟩ := vx_keep h0 e1 hS hA hf hL hF
    obtain ⟨t2, a1, b1⟩ := kk r u t T'.heap (locs ++ L) e1.symm (by rw [← e2]; exact X'.warmed.alike) hp hb k1 k2 k3 T' rfl X'
    exact ⟨t2, st t2 a1, b1⟩
  · obtain ⟨k1, k2, k3⟩ := vx_keep h0 e1 hS hAX hf hL hF
    obtain ⟨t2, a1, b1⟩ := kx E ce q u t T'.heap (locs ++ L) e1.symm (by rw [← e2]; exact X'.warmed.alike) hp hb k1 k2 k3 (by rw [e1]; exact hce) hcv hcl T' rfl X'
    exact ⟨t2, st.trans a1, b1⟩
theorem vx_calll {S SX : Type} {post : Int64 → S → Prop} {px : SX → Prop} {B : S → State → Prop} {BX : String → SX → State → Prop} {AX : Nat → Prop} (hr : vx_Run p l e R s m args below meth c H locs cells slots mc ms (F0 m pc ls st0) rest (va_Ql post B A1 a) (vx_X px BX AX) free) (hS : va_S A0 H0 H locs) (hA : ∀ q, q < H.size → A1 q → A0 q) (hf : ∀ q, free q → A0 q) (hAX : ∀ q, q < H.size → AX q → A0 q)
    (kx : ∀ (E : String) (ce : Cell) (q9 : Addr) (u : SX) (t : State) (H1 : Heap) (locs1 : List Loc), t.heap = H1 → s.vm.Alike t.vm → px u → BX E u t → H.size ≤ H1.size → (∀ q : Nat, q < H.size → ¬ AX q → H1[q]? = H[q]?) → va_S A0 H0 H1 locs1 → H1[q9]? = some ce → ce.vm = .none → s.vm.findClass E = some ce.cls → vx_W p l e R s m args below meth c H1 locs1 (cells + mc) (slots + ms) Q (F0 m pc ls rest) q9)
    (kk : ∀ (r : Int64) (u : S) (t : State) (H1 : Heap) (locs1 : List Loc), t.heap = H1 → s.vm.Alike t.vm → post r u → B u t → H.size ≤ H1.size → (∀ q : Nat, q < H.size → ¬ A1 q → H1[q]? = H[q]?) → va_S A0 H0 H1 locs1 → W p l e R s m args below meth c H1 locs1 (cells + mc) (slots + ms) Q (F0 m (pc + 3) ls (.long r :: rest))) : W p l e R s m args below meth c H locs cells slots Q (F0 m pc ls st0) := by
  intro T hT X
  rcases hr T hT X with ⟨v, st₀, t, T', L, h0, X', hL, e1, e2, ⟨⟨r, u, hv, hp, hb⟩, hF⟩, st⟩ | ⟨q, st₀, t, T', L, E, ce, h0, X', hL, e1, e2, ⟨u, hp, hb, hF⟩, hce, hcv, hcl, st⟩
  · cases hv
    obtain ⟨k1, k2, k3⟩ := vx_keep h0 e1 hS hA hf hL hF
    obtain ⟨t2, a1, b1⟩ := kk r u t T'.heap (locs ++ L) e1.symm (by rw [← e2]; exact X'.warmed.alike) hp hb k1 k2 k3 T' rfl X'
    exact ⟨t2, st t2 a1, b1⟩
  · obtain ⟨k1, k2, k3⟩ := vx_keep h0 e1 hS hAX hf hL hF
    obtain ⟨t2, a1, b1⟩ := kx E ce q u t T'.heap (locs ++ L) e1.symm (by rw [← e2]; exact X'.warmed.alike) hp hb k1 k2 k3 (by rw [e1]; exact hce) hcv hcl T' rfl X'
    exact ⟨t2, st.trans a1, b1⟩
theorem vx_callf {S SX : Type} {post : UInt32 → S → Prop} {px : SX → Prop} {B : S → State → Prop} {BX : String → SX → State → Prop} {AX : Nat → Prop} (hr : vx_Run p l e R s m args below meth c H locs cells slots mc ms (F0 m pc ls st0) rest (va_Qf post B A1 a) (vx_X px BX AX) free) (hS : va_S A0 H0 H locs) (hA : ∀ q, q < H.size → A1 q → A0 q) (hf : ∀ q, free q → A0 q) (hAX : ∀ q, q < H.size → AX q → A0 q)
    (kx : ∀ (E : String) (ce : Cell) (q9 : Addr) (u : SX) (t : State) (H1 : Heap) (locs1 : List Loc), t.heap = H1 → s.vm.Alike t.vm → px u → BX E u t → H.size ≤ H1.size → (∀ q : Nat, q < H.size → ¬ AX q → H1[q]? = H[q]?) → va_S A0 H0 H1 locs1 → H1[q9]? = some ce → ce.vm = .none → s.vm.findClass E = some ce.cls → vx_W p l e R s m args below meth c H1 locs1 (cells + mc) (slots + ms) Q (F0 m pc ls rest) q9)
    (kk : ∀ (r : UInt32) (u : S) (t : State) (H1 : Heap) (locs1 : List Loc), t.heap = H1 → s.vm.Alike t.vm → post r u → B u t → H.size ≤ H1.size → (∀ q : Nat, q < H.size → ¬ A1 q → H1[q]? = H[q]?) → va_S A0 H0 H1 locs1 → W p l e R s m args below meth c H1 locs1 (cells + mc) (slots + ms) Q (F0 m (pc + 3) ls (.float r :: rest))) : W p l e R s m args below meth c H locs cells slots Q (F0 m pc ls st0) := by
  intro T hT X
  rcases hr T hT X with ⟨v, st₀, t, T', L, h0, X', hL, e1, e2, ⟨⟨r, u, hv, hp, hb⟩, hF⟩, st⟩ | ⟨q, st₀, t, T', L, E, ce, h0, X', hL, e1, e2, ⟨u, hp, hb, hF⟩, hce, hcv, hcl, st⟩
  · cases hv
    obtain ⟨k1, k2, k3⟩ := vx_keep h0 e1 hS hA hf hL hF
    obtain ⟨t2, a1, b1⟩ := kk r u t T'.heap (locs ++ L) e1.symm (by rw [← e2]; exact X'.warmed.alike) hp hb k1 k2 k3 T' rfl X'
    exact ⟨t2, st t2 a1, b1⟩
  · obtain ⟨k1, k2, k3⟩ := vx_keep h0 e1 hS hAX hf hL hF
    obtain ⟨t2, a1, b1⟩ := kx E ce q u t T'.heap (locs ++ L) e1.symm (by rw [← e2]; exact X'.warmed.alike) hp hb k1 k2 k3 (by rw [e1]; exact hce) hcv hcl T' rfl X'
    exact ⟨t2, st.trans a1, b1⟩
theorem vx_calld {S SX : Type} {post : UInt64 → S → Prop} {px : SX → Prop} {B : S → State → Prop} {BX : String → SX → State → Prop} {AX : Nat → Prop} (hr : vx_Run p l e R s m args below meth c H locs cells slots mc ms (F0 m pc ls st0) rest (va_Qd post B A1 a) (vx_X px BX AX) free) (hS : va_S A0 H0 H locs) (hA : ∀ q, q < H.size → A1 q → A0 q) (hf : ∀ q, free q → A0 q) (hAX : ∀ q, q < H.size → AX q → A0 q)
    (kx : ∀ (E : String) (ce : Cell) (q9 : Addr) (u : SX) (t : State) (H1 : Heap) (locs1 : List Loc), t.heap = H1 → s.vm.Alike t.vm → px u → BX E u t → H.size ≤ H1.size → (∀ q : Nat, q < H.size → ¬ AX q → H1[q]? = H[q]?) → va_S A0 H0 H1 locs1 → H1[q9]? = some ce → ce.vm = .none → s.vm.findClass E = some ce.cls → vx_W p l e R s m args below meth c H1 locs1 (cells + mc) (slots + ms) Q (F0 m pc ls rest) q9)
    (kk : ∀ (r : UInt64) (u : S) (t : State) (H1 : Heap) (locs1 : List Loc), t.heap = H1 → s.vm.Alike t.vm → post r u → B u t → H.size ≤ H1.size → (∀ q : Nat, q < H.size → ¬ A1 q → H1[q]? = H[q]?) → va_S A0 H0 H1 locs1 → W p l e R s m args below meth c H1 locs1 (cells + mc) (slots + ms) Q (F0 m (pc + 3) ls (.double r :: rest))) : W p l e R s m args below meth c H locs cells slots Q (F0 m pc ls st0) := by
  intro T hT X
  rcases hr T hT X with ⟨v, st₀, t, T', L, h0, X', hL, e1, e2, ⟨⟨r, u, hv, hp, hb⟩, hF⟩, st⟩ | ⟨q, st₀, t, T', L, E, ce, h0, X', hL, e1, e2, ⟨u, hp, hb, hF⟩, hce, hcv, hcl, st⟩
  · cases hv
    obtain ⟨k1, k2, k3⟩ := vx_keep h0 e1 hS hA hf hL hF
    obtain ⟨t2, a1, b1⟩ := kk r u t T'.heap (locs ++ L) e1.symm (by rw [← e2]; exact X'.warmed.alike) hp hb k1 k2 k3 T' rfl X'
    exact ⟨t2, st t2 a1, b1⟩
  · obtain ⟨k1, k2, k3⟩ := vx_keep h0 e1 hS hAX hf hL hF
    obtain ⟨t2, a1, b1⟩ := kx E ce q u t T'.heap (locs ++ L) e1.symm (by rw [← e2]; exact X'.warmed.alike) hp hb k1 k2 k3 (by rw [e1]; exact hce) hcv hcl T' rfl X'
    exact ⟨t2, st.trans a1, b1⟩
theorem vx_callv {S SX : Type} {post : S → Prop} {px : SX → Prop} {B : S → State → Prop} {BX : String → SX → State → Prop} {AX : Nat → Prop} (hr : vx_Run p l e R s m args below meth c H locs cells slots mc ms (F0 m pc ls st0) rest (va_Qv post B A1 a) (vx_X px BX AX) free) (hS : va_S A0 H0 H locs) (hA : ∀ q, q < H.size → A1 q → A0 q) (hf : ∀ q, free q → A0 q) (hAX : ∀ q, q < H.size → AX q → A0 q)
    (kx : ∀ (E : String) (ce : Cell) (q9 : Addr) (u : SX) (t : State) (H1 : Heap) (locs1 : List Loc), t.heap = H1 → s.vm.Alike t.vm → px u → BX E u t → H.size ≤ H1.size → (∀ q : Nat, q < H.size → ¬ AX q → H1[q]? = H[q]?) → va_S A0 H0 H1 locs1 → H1[q9]? = some ce → ce.vm = .none → s.vm.findClass E = some ce.cls → vx_W p l e R s m args below meth c H1 locs1 (cells + mc) (slots + ms) Q (F0 m pc ls rest) q9)
    (kk : ∀ (u : S) (t : State) (H1 : Heap) (locs1 : List Loc), t.heap = H1 → s.vm.Alike t.vm → post u → B u t → H.size ≤ H1.size → (∀ q : Nat, q < H.size → ¬ A1 q → H1[q]? = H[q]?) → va_S A0 H0 H1 locs1 → W p l e R s m args below meth c H1 locs1 (cells + mc) (slots + ms) Q (F0 m (pc + 3) ls (rest))) : W p l e R s m args below meth c H locs cells slots Q (F0 m pc ls st0) := by
  intro T hT X
  rcases hr T hT X with ⟨v, st₀, t, T', L, h0, X', hL, e1, e2, ⟨⟨u, hv, hp, hb⟩, hF⟩, st⟩ | ⟨q, st₀, t, T', L, E, ce, h0, X', hL, e1, e2, ⟨u, hp, hb, hF⟩, hce, hcv, hcl, st⟩
  · cases hv
    obtain ⟨k1, k2, k3⟩ := vx_keep h0 e1 hS hA hf hL hF
    obtain ⟨t2, a1, b1⟩ := kk u t T'.heap (locs ++ L) e1.symm (by rw [← e2]; exact X'.warmed.alike) hp hb k1 k2 k3 T' rfl X'
    exact ⟨t2, st t2 a1, b1⟩
  · obtain ⟨k1, k2, k3⟩ := vx_keep h0 e1 hS hAX hf hL hF
    obtain ⟨t2, a1, b1⟩ := kx E ce q u t T'.heap (locs ++ L) e1.symm (by rw [← e2]; exact X'.warmed.alike) hp hb k1 k2 k3 (by rw [e1]; exact hce) hcv hcl T' rfl X'
    exact ⟨t2, st.trans a1, b1⟩
/-- caught by the row x of this method's table; the rows ahead don't take it -/
theorem vx_catch {own name : String} {E : String} {ce : Cell} {q : Addr} (hown : s.vm.findClass own = some m.cls) (pre : List ExceptionTableEntry) (x : ExceptionTableEntry) (suf : List ExceptionTableEntry) (hsplit : c.exceptionTable.toList = pre ++ x :: suf)
    (hpass : ∀ z ∈ pre, covers z pc = false ∨ (z.catchType ≠ 0 ∧ ∃ nm : String, (Cond.classLink own z.catchType nm).before args s = true ∧ va_Nc E nm s)) (hx : covers x pc = true) (h0 : x.catchType ≠ 0)
    (hlink : (Cond.classLink own x.catchType name).before args s = true) (hcast : (Cond.castable E name).before args s = true) (hcell : H[q]? = some ce) (hv : ce.vm = .none) (hcl : s.vm.findClass E = some ce.cls)
    (kk : W p l e R s m args below meth c H locs cells slots Q (F0 m x.handlerPc ls [.ref q])) : vx_W p l e R s m args below meth c H locs cells slots Q (F0 m pc ls rest) q := by
  intro T hT X
  have hpl : e.platform.magicAccessors = ({} : Platform).magicAccessors := by rw [X.admits.platform]
  obtain ⟨c3, c4, hc3, hc4, hasg⟩ := Cond.castable_spec hcast
  cases Option.some.inj (hc3.symm.trans hcl)
  obtain ⟨c5, hc5, hcl5⟩ := Cond.classLink_spec hown hlink e.platform hpl
  cases Option.some.inj (hc4.symm.trans hc5)
  obtain ⟨vm', X', st⟩ := X.thenCaughtThrough q (g := F0 m pc ls rest) rfl (Steps.refl _) (by rw [hT]; exact hcell) (by rw [hv]; rfl) (by obtain ⟨k9, h9, -⟩ := Vm.findClass_spec hcl; exact ⟨k9, h9⟩) pre x suf hsplit
    (fun z hz => by
      rcases hpass z hz with h | ⟨hz0, nm, hl1, hn1⟩
      · exact Or.inl h
      · obtain ⟨c6, hc6, hcl6⟩ := Cond.classLink_spec hown hl1 e.platform hpl
        obtain ⟨a8, b8, h1, h2, h3⟩ := hn1
        cases Option.some.inj (h1.symm.trans hcl)
        cases Option.some.inj (h2.symm.trans hc6)
        exact Or.inr ⟨hz0, _, hcl6, h3⟩) hx (Or.inr ⟨h0, c4, hcl5, hasg⟩)
  obtain ⟨t, a1, b1⟩ := kk (T.setVm vm') hT X'
  exact ⟨t, st.trans a1, b1⟩
end Rows
section Ends
variable {p : Program} {l : Launch} {e : Env} {R : Room} {s : State} {m : MethodId} {args : Array Value} {below : List Frame} {meth : Method} {c : Code} {H : Heap} {locs : List Loc} {cells slots : Nat} {Q : State → Prop}
variable {mc ms : Nat} {free : Addr → Prop} {A0 A1 : Nat → Prop} {H0 : Heap} {a : Array Value} {ls : Array Slot} {st0 rest : List Value}
variable {Qc : Array Value → State → Outcome → State → Prop} {XC : String → State → State → Prop}
/-- what a body that may throw owes at its end -/
def vx_MQ (below : List Frame) (Qc : Array Value → State → Outcome → State → Prop) (XC : String → State → State → Prop) (a : Array Value) (s : State) (mc ms : Nat) (free : Addr → Prop) : State → Prop := fun t =>
  ∃ o, t.status = .running ∧ Ended t below o ∧ vx_Q Qc XC mc ms free a s o t
theorem vx_ret {g : JFrame} {mc ms : Nat} (k : W p l e R s m args below meth c H locs cells slots (MQ below Qc args s mc ms free) g) : W p l e R s m args below meth c H locs cells slots (vx_MQ below Qc XC args s mc ms free) g := by
  intro T hT X
  obtain ⟨t, a1, o, b1, b2, b3, b4⟩ := k T hT X
  exact ⟨t, a1, o, b1, b2, Or.inl ⟨b3, b4⟩⟩
/-- not caught here: it goes on to the caller -/
theorem vx_widen {g : JFrame} {q : Addr} {k n : Nat} (h1 : cells ≤ k) (h2 : slots ≤ n) (kk : vx_W p l e R s m args below meth c H locs k n Q g q) : vx_W p l e R s m args below meth c H locs cells slots Q g q := fun T hT X => kk T hT (stand_widen X h1 h2)
theorem vx_out {pc : Nat} {E : String} {ce : Cell} {q : Addr} {mc ms : Nat} (hout : ∀ x ∈ c.exceptionTable.toList, covers x pc = false) (hlocks : meth.locks = false) (hcell : H[q]? = some ce) (hv : ce.vm = .none) (hcl : s.vm.findClass E = some ce.cls)
    (hx : ∀ t : State, t.heap = H → s.vm.Alike t.vm → XC E s t) (hf : ∀ z ∈ locs, free z.base) (hc : cells ≤ mc) (hs : slots ≤ ms) :
    vx_W p l e R s m args below meth c H locs cells slots (vx_MQ below Qc XC args s mc ms free) (F0 m pc ls rest) q := by
  intro T hT X
  obtain ⟨st1, hrun, hend, hW, hsm⟩ := X.leaveThrown q (g := F0 m pc ls rest) rfl rfl rfl hout hlocks
  have hcell9 : (T.setFrames (.throwing q :: below)).heap[q]? = some ce := by
    show T.heap[q]? = some ce
    rw [hT]; exact hcell
  exact ⟨_, st1, .threw q, hrun, hend, Or.inr ⟨q, rfl, E, ce, locs, hx _ hT hW.alike, hcell9, hv, hcl, hW, hsm.mono hc hs, hf⟩⟩
theorem vx_frame {U : State} {k n : Nat} (h : s.sameButNew ({ U with vm := s.vm } : State) locs k n) : s.heap.size ≤ U.heap.size ∧ ∀ q : Nat, q < s.heap.size → (∀ z ∈ locs, z.base ≠ q) → U.heap[q]? = s.heap[q]? := by
  obtain ⟨-, h2, -, -, -, h6⟩ := h
  refine ⟨h2, fun q hq hz => ?_⟩
  obtain ⟨c9, e1, e2, e3, e4⟩ := h6 q _ (Array.getElem?_eq_getElem hq)
  have hs : c9.slots = (s.heap[q]).slots := Array.ext_getElem? fun i => e4 i fun hm => hz _ hm rfl
  have h9 : c9 = s.heap[q] := by
    rw [hs] at e2
    exact e2
  have e5 : U.heap[q]? = some c9 := e1
  rw [e5, h9, Array.getElem?_eq_getElem hq]
/-- the words of a throw but the four that speak of the heap -/
def vx_no (w : Cond) : Bool := decide (w ≠ .isRef (.static Bundle.tN "UNASSIGNED_STACK" Bundle.steD)) && decide (w ≠ .isRef (.static Bundle.tN "SUPPRESSED_SENTINEL" Bundle.listD)) && decide (w ≠ .laysStatic Bundle.tN "UNASSIGNED_STACK" Bundle.steD) && decide (w ≠ .laysStatic Bundle.tN "SUPPRESSED_SENTINEL" Bundle.listD)
def vx_at0 (own : String) (ic : Nat) (X : String) (names : List String) : List Cond := (Bundle.ownAtoms0 own ic X names).filter vx_no
def vx_atS (own : String) (ic : Nat) (X : String) (names : List String) : List Cond := (Bundle.ownAtoms own ic X names).filter vx_no
/-- a word that the tables alone decide, or a good one -/
def vx_ot (w : Cond) : Bool := w.onTables || goodWord w
theorem vx_ot_at {args a' : Array Value} {s U : State} {w : Cond} (hW : s.WarmedH U.vm) (hvm : s.vm = U.vm) (hg : vx_ot w = true) (h : w.before args s = true) : w.before a' U = true := by
  simp only [vx_ot, Bool.or_eq_true] at hg
  rcases hg with hg | hg
  · exact va_tabs hg hvm h
  · exact word_at hW (good_of_word hg) h
/-- a list's words: the good ones out of the method's own list, the others by premises of their own -/
theorem vx_hat {args : Array Value} {s : State} {L B : List Cond} (h1 : ∀ w ∈ L.filter goodWord, w.before args s = true) (h2 : ∀ w ∈ L.filter (fun w => !goodWord w), w ∈ B) (h3 : ∀ w ∈ B, w.before args s = true) : ∀ w ∈ L, w.before args s = true := by
  intro w hw
  by_cases g : goodWord w = true
  · exact h1 w (List.mem_filter.mpr ⟨hw, g⟩)
  · refine h3 w (h2 w (List.mem_filter.mpr ⟨hw, ?_⟩))
    show (!goodWord w) = true
    cases hgw : goodWord w
    · rfl
    · exact absurd hgw g
theorem vx_c {args : Array Value} {s : State} {w : Cond} {B : List Cond} (h : w.before args s = true) (t : ∀ w ∈ B, w.before args s = true) : ∀ w' ∈ w :: B, w'.before args s = true := fun w' h' => (List.mem_cons.mp h').elim (fun e => by rw [e]; exact h) (t w')
theorem vx_n {args : Array Value} {s : State} : ∀ w ∈ ([] : List Cond), w.before args s = true := fun _ h => nomatch h
theorem vx_own {args : Array Value} {s : State} {L : List Cond} (h1 : ∀ w ∈ L.filter vx_no, w.before args s = true)
    (hU : (Cond.isRef (.static Bundle.tN "UNASSIGNED_STACK" Bundle.steD)).before args s = true) (hN : (Cond.isRef (.static Bundle.tN "SUPPRESSED_SENTINEL" Bundle.listD)).before args s = true)
    (lU : (Cond.laysStatic Bundle.tN "UNASSIGNED_STACK" Bundle.steD).before args s = true) (lN : (Cond.laysStatic Bundle.tN "SUPPRESSED_SENTINEL" Bundle.listD).before args s = true) : ∀ w ∈ L, w.before args s = true := by
  intro w hw
  by_cases e1 : w = .isRef (.static Bundle.tN "UNASSIGNED_STACK" Bundle.steD)
  · rw [e1]; exact hU
  · by_cases e2 : w = .isRef (.static Bundle.tN "SUPPRESSED_SENTINEL" Bundle.listD)
    · rw [e2]; exact hN
    · by_cases e3 : w = .laysStatic Bundle.tN "UNASSIGNED_STACK" Bundle.steD
      · rw [e3]; exact lU
      · by_cases e4 : w = .laysStatic Bundle.tN "SUPPRESSED_SENTINEL" Bundle.listD
        · rw [e4]; exact lN
        · exact h1 w (List.mem_filter.mpr ⟨hw, by unfold vx_no; rw [decide_eq_true e1, decide_eq_true e2, decide_eq_true e3, decide_eq_true e4]; rfl⟩)
/-- where a static field lies, its class's statics cell in H -/
def vx_L (C n d : String) (A : Nat → Prop) (U : State) (H : Heap) : Prop := ∃ (c : ClassId) (k : Class) (i : Nat) (f : Field) (a : Nat) (cell : Cell), U.vm.findClass C = some c ∧ U.fieldFound? C n d = some (c, k, i, f) ∧ f.isStatic = true ∧ k.statics = some a ∧ H[a]? = some cell ∧ cell.vm.isStatics = true ∧ cell.cls = c ∧ f.slot < cell.slots.size ∧ k.staticTypes[f.slot]? = some f.type ∧ ¬ A a
theorem vx_L.moved {C n d : String} {A : Nat → Prop} {u U : State} {H : Heap} (hvm : u.vm.Alike U.vm) (h : vx_L C n d A u H) : vx_L C n d A U H := by
  obtain ⟨c, k, i, f, a, cell, h1, h2, h3, h4, h5, h6, h7, h8, h9, h10⟩ := h
  obtain ⟨k', hi', he⟩ := State.fieldFound?_setVm hvm h2
  exact ⟨c, k', i, f, a, cell, by rw [hvm.findClass]; exact h1, hi', h3, by rw [he]; exact h4, h5, h6, h7, h8, by rw [he]; exact h9, h10⟩
theorem vx_L.kept {C n d : String} {A : Nat → Prop} {U : State} {H H1 : Heap} (h : vx_L C n d A U H) (hq : ∀ a : Nat, a < H.size → ¬ A a → H1[a]? = H[a]?) : vx_L C n d A U H1 := by
  obtain ⟨c, k, i, f, a, cell, h1, h2, h3, h4, h5, h6, h7, h8, h9, h10⟩ := h
  exact ⟨c, k, i, f, a, cell, h1, h2, h3, h4, by rw [hq a (Array.getElem?_eq_some_iff.mp h5).1 h10]; exact h5, h6, h7, h8, h9, h10⟩
theorem vx_L.narrow {C n d : String} {A B : Nat → Prop} {U : State} {H : Heap} (h : vx_L C n d A U H) (hAB : ∀ q, B q → A q) : vx_L C n d B U H := by
  obtain ⟨c, k, i, f, a, cell, h1, h2, h3, h4, h5, h6, h7, h8, h9, h10⟩ := h
  exact ⟨c, k, i, f, a, cell, h1, h2, h3, h4, h5, h6, h7, h8, h9, fun z => h10 (hAB _ z)⟩
theorem vx_L.word {C n d : String} {A : Nat → Prop} {s : State} {args : Array Value} (h : vx_L C n d A s s.heap) : (Cond.laysStatic C n d).before args s = true := by
  obtain ⟨c, k, i, f, a, cell, h1, h2, h3, h4, h5, h6, h7, h8, h9, -⟩ := h
  show (Cond.laysStatic C n d).holds args s none s [] = true
  exact Cond.laysStatic_of h1 h2 h3 h4 h5 h6 h7 h8 h9
/-- .. and what it holds: null or some reference -/
def vx_Zq (C n d : String) (A : Nat → Prop) (U : State) (H : Heap) : Prop := va_Zq C n d A U H ∧ vx_L C n d A U H
theorem vx_Zq.moved {C n d : String} {A : Nat → Prop} {u U : State} {H : Heap} (hvm : u.vm.Alike U.vm) (h : vx_Zq C n d A u H) : vx_Zq C n d A U H := ⟨va_Zq.moved hvm h.1, vx_L.moved hvm h.2⟩
theorem vx_Zq.kept {C n d : String} {A : Nat → Prop} {U : State} {H H1 : Heap} (h : vx_Zq C n d A U H) (hq : ∀ a : Nat, a < H.size → ¬ A a → H1[a]? = H[a]?) : vx_Zq C n d A U H1 := ⟨va_Zq.kept h.1 hq, vx_L.kept h.2 hq⟩
theorem vx_Zq.narrow {C n d : String} {A B : Nat → Prop} {U : State} {H : Heap} (h : vx_Zq C n d A U H) (hAB : ∀ q, B q → A q) : vx_Zq C n d B U H := ⟨va_Zq.narrow h.1 hAB, vx_L.narrow h.2 hAB⟩
theorem vx_Zqof {args : Array Value} {s : State} {C n d : String} {A : Nat → Prop} (hl : (Cond.laysStatic C n d).before args s = true) (hini : (Cond.initialized C).before args s = true) (h : (Cond.isRef (.static C n d)).before args s = true) (hA : ∀ a : Nat, a < s.heap.size → ¬ A a) : vx_Zq C n d A s s.heap := by
  refine ⟨va_Zqof hl hini h hA, ?_⟩
  obtain ⟨c, k, i, f, a, cell, h1, h2, h3, h4, h5, h6, h7, h8, h9⟩ := Cond.laysStatic_spec hl
  exact ⟨c, k, i, f, a, cell, h1, h2, h3, h4, h5, h6, h7, h8, h9, hA a (Array.getElem?_eq_some_iff.mp h5).1⟩
theorem vx_isRef {C n d : String} {v : Value} {A : Nat → Prop} {s : State} {args : Array Value} (h : va_Z C n d v A s s.heap) (hv : v.isRef = true) : (Cond.isRef (.static C n d)).before args s = true := by
  obtain ⟨cf, kf, fi, f, a, cell, h1, h2, h3, h4, h5, h6, h7, -⟩ := h
  have he : (Term.static C n d).eval args s none [] s = some v := by
    simp [Term.eval, State.fieldNamed?, h1, h2, h4, h5, h6, h7]
  simp only [Cond.before, Cond.holds, Cond.value, he]
  cases v <;> simp_all [Value.isRef]
theorem vx_isRefq {C n d : String} {A : Nat → Prop} {s : State} {args : Array Value} (h : va_Zq C n d A s s.heap) : (Cond.isRef (.static C n d)).before args s = true := by
  rcases h with h | ⟨t, h⟩
  · exact vx_isRef h rfl
  · exact vx_isRef h rfl
/-- the same frame, seen from here: as if the method were called anew in this heap -/
theorem vx_rebase {T : State} (X : Stand p l e R s m args below meth c T locs cells slots) {R' : Room} (hf : R'.frames ≤ R.frames) (hl : R'.locals ≤ R.locals) (hc : cells + R'.cells ≤ R.cells) (hs : slots + R'.slots ≤ R.slots) :
    Stand p l e R' ((T.setVm s.vm).setFrames (.invoking m args :: below)) m args below meth c T [] 0 0 := by
  have htop : (T.setVm s.vm).topJava?.isSome := X.here.top
  have hF : ((T.setVm s.vm).setFrames (.invoking m args :: below)).frames = .invoking m args :: below := State.frames_setFrames _ (State.cur_lt_of_top htop)
  obtain ⟨g₀, hg0⟩ := Option.isSome_iff_exists.mp htop
  obtain ⟨r, hr⟩ := State.topJava?_eq_some.mp hg0
  have hl9 : e.platform.stackLimits (T.setVm s.vm).me = e.platform.stackLimits s.me := X.limits
  have hb9 : (T.setVm s.vm).me.stackBytes = s.me.stackBytes := X.bytes
  refine ⟨X.admits, X.cas, X.clock, hF, ?_, X.hears, X.method, X.code, X.here, X.tail, X.warmed, ?_, ?_, ?_⟩
  · have h := X.room
    have hU : ((T.setVm s.vm).setFrames (.invoking m args :: below)).localsInUse = s.localsInUse := by
      rw [State.localsInUse_invoking hF (meth := meth) (c := c) X.method X.code, State.localsInUse_invoking X.frames X.method X.code]
    simp only [State.hasRoom, Bool.and_eq_true, decide_eq_true_eq] at h ⊢
    obtain ⟨⟨⟨⟨h1, h2, h3, h4, h5, h6⟩, h7⟩, h8⟩, h9⟩ := h
    rw [X.frames, List.length_cons] at h2 h3
    have q1 := X.heapSize
    have q2 := X.used
    simp only [hF, hU, List.length_cons, State.stackLimits_setFrames, State.stackBytes_setFrames, hl9, hb9]
    refine ⟨⟨⟨⟨by omega, by omega, by omega, by omega, by omega, h6⟩, ?_⟩, ?_⟩, X.book⟩
    · show T.heap.size + R'.cells ≤ e.platform.maxCells
      omega
    · show T.slotsUsed + R'.slots ≤ e.platform.maxSlots
      omega
  · rw [State.stackLimits_setFrames]; rfl
  · rw [State.stackBytes_setFrames]; rfl
  · refine ⟨?_, Nat.le_refl _, Nat.le_refl _, ?_, ?_, fun a c9 h9 => ⟨c9, h9, rfl, rfl, fun _ _ => rfl⟩⟩
    · obtain ⟨t, ht, -⟩ := State.frames_cons hr
      show T.setVm s.vm = { ((T.setVm s.vm).setFrames (.invoking m args :: below)).setFrames (T.setVm s.vm).frames with heap := T.heap, slotsUsed := T.slotsUsed }
      rw [State.setFrames_setFrames, State.setFrames_self ht]
      rfl
    · show T.slotsUsed = T.slotsUsed + ((T.heap.toList.drop T.heap.size).map (·.slots.size)).sum
      rw [List.drop_eq_nil_of_le (Nat.le_of_eq Array.length_toList)]
      rfl
    · show ((T.heap.toList.drop T.heap.size).map (·.slots.size)).sum ≤ 0
      rw [List.drop_eq_nil_of_le (Nat.le_of_eq Array.length_toList)]
      exact Nat.le_refl _
/-- 'throw new E()': new; dup; invokespecial; athrow -/
theorem vx_throw0 {cc : ByteArray} {pc : Nat} (hexec : p.tables.exec = Jvm.exec) (hb : c.code = cc) (hl : l.stackTraces = false) {own cls : String} {names : List String} {ik ic mc ms : Nat} {A : Nat → Prop}
    (hown : s.vm.findClass own = some m.cls) (hcls : Bundle.fit cls = true) (hnames : ∀ n ∈ names, Bundle.fit n = true)
    (hk : (Cond.classLink own ik cls).before args s = true) (hini : (Cond.initialized cls).before args s = true) (hat : ∀ w ∈ vx_at0 own ic cls names, w.before args s = true)
    (hgood : ∀ w ∈ Cond.classLink own ik cls :: Cond.initialized cls :: vx_at0 own ic cls names, vx_ot w = true)
    (hU : vx_Zq Bundle.tN "UNASSIGNED_STACK" Bundle.steD A s s.heap) (hN : vx_Zq Bundle.tN "SUPPRESSED_SENTINEL" Bundle.listD A s s.heap) (hS : va_S A s.heap H locs) (hsize : ls.size = c.maxLocals)
    (d0 : decode cc pc = .ok (.new ik, 3)) (d3 : decode cc (pc + 3) = .ok (.dup, 1)) (d4 : decode cc (pc + 4) = .ok (.invokespecial ic, 3)) (d7 : decode cc (pc + 7) = .ok (.athrow, 1))
    (hout : ∀ x ∈ c.exceptionTable.toList, covers x (pc + 7) = false)
    (hRframes : names.length + 3 < R.frames) (hRlocals : (rest.map fun v => v.category).sum + (13 * (names.length + 1) + 42) ≤ R.locals) (hRcells : cells + 1 ≤ R.cells) (hRslots : slots + 6 ≤ R.slots) (hlocks : meth.locks = false)
    (hx : ∀ t : State, s.vm.Alike t.vm → H.size ≤ t.heap.size → (∀ q : Nat, q < H.size → t.heap[q]? = H[q]?) → XC cls s t)
    (hf : ∀ z ∈ locs, free z.base) (hc : cells + 1 ≤ mc) (hs : slots + 6 ≤ ms) :
    W p l e R s m args below meth c H locs cells slots (vx_MQ below Qc XC args s mc ms free) (F0 m pc ls rest) := by
  intro T hT X
  have htr : e.platform.stackTraces = false := (show e.platform.stackTraces = l.stackTraces by rw [X.admits.platform]).trans hl
  have Y := vx_rebase X (R' := { frames := R.frames, locals := R.locals, cells := 1, slots := 6 }) (Nat.le_refl _) (Nat.le_refl _) hRcells hRslots
  obtain ⟨s', hA⟩ : ∃ z, z = (T.setVm s.vm).setFrames (.invoking m args :: below) := ⟨_, rfl⟩
  rw [← hA] at Y
  have hvm : s'.vm = s.vm := by rw [hA]; rfl
  have hhp : s'.heap = H := by rw [hA]; exact hT
  have hW0 : s.WarmedH s'.vm := by rw [hvm]; exact State.WarmedH.refl s
  have hat' : ∀ w ∈ vx_at0 own ic cls names, w.before args s' = true := fun w hw => vx_ot_at hW0 hvm.symm (hgood w (List.mem_cons_of_mem _ (List.mem_cons_of_mem _ hw))) (hat w hw)
  have hk' : (Cond.classLink own ik cls).before args s' = true := vx_ot_at hW0 hvm.symm (hgood _ List.mem_cons_self) hk
  have hini' : (Cond.initialized cls).before args s' = true := vx_ot_at hW0 hvm.symm (hgood _ (List.mem_cons_of_mem _ List.mem_cons_self)) hini
  have hU' : vx_Zq Bundle.tN "UNASSIGNED_STACK" Bundle.steD A s' s'.heap := by rw [hhp]; exact vx_Zq.moved hW0.alike (hU.kept hS.2.1)
  have hN' : vx_Zq Bundle.tN "SUPPRESSED_SENTINEL" Bundle.listD A s' s'.heap := by rw [hhp]; exact vx_Zq.moved hW0.alike (hN.kept hS.2.1)
  have h : ∀ w ∈ Bundle.ownAtoms0 own ic cls names, w.before args s' = true := vx_own hat' (vx_isRefq hU'.1) (vx_isRefq hN'.1) hU'.2.word hN'.2.word
  have hown' : s'.vm.findClass own = some m.cls := by rw [hvm]; exact hown
  have hins : (Cond.instantiable cls 6).before args s' = true := h _ (by simp [Bundle.ownAtoms0])
  obtain ⟨vm₁, cX, kX, hfX, hkX, -, -, X₁, st1⟩ := Y.newCold hexec (own := own) (C := cls) (index := ik) (n := 6) hown' hk' hins hini'
    (g := F0 m pc ls rest) rfl (by rw [hb]; exact d0) (Nat.le_refl _) (Nat.le_refl _)
  generalize hT1 : (T.setVm vm₁).pushCell { cls := cX, slots := kX.instanceTypes.map defaultValue, vm := .none } = T1 at X₁ st1
  have hcat : (Value.ref T.heap.size).category = 1 := rfl
  have hcellA : T1.heap[T.heap.size]? = some (freshCell cX kX) := by rw [← hT1]; exact State.heap_pushCell_size _ _
  have d3' : decode c.code (pc + 3) = .ok (.dup, 1) := by rw [hb]; exact d3
  obtain ⟨U, hsteps, hrun, hend, hW, hsame, ce, hce, hO⟩ := X₁.ctorThrow0 hexec htr (own := own) (cls := cls) (names := names) (ic := ic) hown' hcls hnames h (fun x hx => nomatch hx) hfX hkX hcellA (by rw [hhp, hT]; exact Nat.le_refl _)
    (g := { method := m, pc := pc + 4, locals := ls, stack := .ref T.heap.size :: .ref T.heap.size :: rest, locked := none }) rfl hsize rfl rfl (rest := rest) rfl
    (by rw [hb]; exact d4) (by rw [hb]; exact d7) hout hRframes (by simp only [List.map_cons, List.sum_cons, hcat]; omega) hlocks
  obtain ⟨f1, f2⟩ := vx_frame hsame
  rw [hhp] at f1 f2
  have hWs : s.WarmedH U.vm := State.WarmedH.trans hW0 hW
  have hcl : s.vm.findClass cls = some ce.cls := by
    have h9 := hO.cls
    rw [hvm] at h9
    exact h9
  have hall : s.sameButNew ({ U with vm := s.vm } : State) locs mc ms := by
    subst hA
    obtain ⟨e1, e2⟩ := hsame
    rw [State.setFrames_setFrames] at e1
    have h2 : (T.setVm s.vm).sameButNew ({ U with vm := s.vm } : State) [] (0 + 1) (0 + 6) := ⟨e1, e2⟩
    have h3 := X.same.trans h2
    rw [List.append_nil] at h3
    exact h3.mono hc hs
  refine ⟨U, ?_, .threw T.heap.size, hrun, hend, Or.inr ⟨T.heap.size, rfl, cls, ce, locs, hx U hWs.alike f1 (fun q hq => f2 q hq (fun z hz => nomatch hz)), hce, hO.vm, hcl, hWs, hall, hf⟩⟩
  refine st1 _ ?_
  show Steps p.tables e below (T1.setTop { method := m, pc := pc + 3, locals := ls, stack := .ref T.heap.size :: rest, locked := none }) _
  jvm_step X₁.here [X₁.here.top, hexec, d3', Value.category]
  exact hsteps
/-- 'throw new E("text")': new; dup; ldc; invokespecial; athrow -/
theorem vx_throwS {cc : ByteArray} {pc : Nat} (hexec : p.tables.exec = Jvm.exec) (hb : c.code = cc) (hl : l.stackTraces = false) {own cls text : String} {names : List String} {ik is ic mc ms sa : Nat} {A : Nat → Prop}
    (hown : s.vm.findClass own = some m.cls) (hcls : Bundle.fit cls = true) (hnames : ∀ n ∈ names, Bundle.fit n = true)
    (hk : (Cond.classLink own ik cls).before args s = true) (hini : (Cond.initialized cls).before args s = true) (hstr : vk_R own is text sa s) (hat : ∀ w ∈ vx_atS own ic cls names, w.before args s = true)
    (hgood : ∀ w ∈ Cond.classLink own ik cls :: Cond.initialized cls :: vx_atS own ic cls names, vx_ot w = true)
    (hU : vx_Zq Bundle.tN "UNASSIGNED_STACK" Bundle.steD A s s.heap) (hN : vx_Zq Bundle.tN "SUPPRESSED_SENTINEL" Bundle.listD A s s.heap) (hS : va_S A s.heap H locs) (hsize : ls.size = c.maxLocals)
    (d0 : decode cc pc = .ok (.new ik, 3)) (d3 : decode cc (pc + 3) = .ok (.dup, 1)) (d4 : decode cc (pc + 4) = .ok (.ldc is, 2)) (d6 : decode cc (pc + 6) = .ok (.invokespecial ic, 3)) (d9 : decode cc (pc + 9) = .ok (.athrow, 1))
    (hout : ∀ x ∈ c.exceptionTable.toList, covers x (pc + 9) = false)
    (hRframes : names.length + 3 < R.frames) (hRlocals : (rest.map fun v => v.category).sum + (13 * (names.length + 1) + 43) ≤ R.locals) (hRcells : cells + 1 ≤ R.cells) (hRslots : slots + 6 ≤ R.slots) (hlocks : meth.locks = false)
    (hx : ∀ t : State, s.vm.Alike t.vm → H.size ≤ t.heap.size → (∀ q : Nat, q < H.size → t.heap[q]? = H[q]?) → XC cls s t)
    (hf : ∀ z ∈ locs, free z.base) (hc : cells + 1 ≤ mc) (hs : slots + 6 ≤ ms) :
    W p l e R s m args below meth c H locs cells slots (vx_MQ below Qc XC args s mc ms free) (F0 m pc ls rest) := by
  intro T hT X
  have htr : e.platform.stackTraces = false := (show e.platform.stackTraces = l.stackTraces by rw [X.admits.platform]).trans hl
  have Y := vx_rebase X (R' := { frames := R.frames, locals := R.locals, cells := 1, slots := 6 }) (Nat.le_refl _) (Nat.le_refl _) hRcells hRslots
  obtain ⟨s', hA⟩ : ∃ z, z = (T.setVm s.vm).setFrames (.invoking m args :: below) := ⟨_, rfl⟩
  rw [← hA] at Y
  have hvm : s'.vm = s.vm := by rw [hA]; rfl
  have hhp : s'.heap = H := by rw [hA]; exact hT
  have hW0 : s.WarmedH s'.vm := by rw [hvm]; exact State.WarmedH.refl s
  have hat' : ∀ w ∈ vx_atS own ic cls names, w.before args s' = true := fun w hw => vx_ot_at hW0 hvm.symm (hgood w (List.mem_cons_of_mem _ (List.mem_cons_of_mem _ hw))) (hat w hw)
  have hk' : (Cond.classLink own ik cls).before args s' = true := vx_ot_at hW0 hvm.symm (hgood _ List.mem_cons_self) hk
  have hini' : (Cond.initialized cls).before args s' = true := vx_ot_at hW0 hvm.symm (hgood _ (List.mem_cons_of_mem _ List.mem_cons_self)) hini
  have hU' : vx_Zq Bundle.tN "UNASSIGNED_STACK" Bundle.steD A s' s'.heap := by rw [hhp]; exact vx_Zq.moved hW0.alike (hU.kept hS.2.1)
  have hN' : vx_Zq Bundle.tN "SUPPRESSED_SENTINEL" Bundle.listD A s' s'.heap := by rw [hhp]; exact vx_Zq.moved hW0.alike (hN.kept hS.2.1)
  have h : ∀ w ∈ Bundle.ownAtoms own ic cls names, w.before args s' = true := vx_own hat' (vx_isRefq hU'.1) (vx_isRefq hN'.1) hU'.2.word hN'.2.word
  have hown' : s'.vm.findClass own = some m.cls := by rw [hvm]; exact hown
  have hins : (Cond.instantiable cls 6).before args s' = true := h _ (by simp [Bundle.ownAtoms])
  obtain ⟨vm₁, cX, kX, hfX, hkX, -, -, X₁, st1⟩ := Y.newCold hexec (own := own) (C := cls) (index := ik) (n := 6) hown' hk' hins hini'
    (g := F0 m pc ls rest) rfl (by rw [hb]; exact d0) (Nat.le_refl _) (Nat.le_refl _)
  generalize hT1 : (T.setVm vm₁).pushCell { cls := cX, slots := kX.instanceTypes.map defaultValue, vm := .none } = T1 at X₁ st1
  have hcat : (Value.ref T.heap.size).category = 1 := rfl
  have hcellA : T1.heap[T.heap.size]? = some (freshCell cX kX) := by rw [← hT1]; exact State.heap_pushCell_size _ _
  have d3' : decode c.code (pc + 3) = .ok (.dup, 1) := by rw [hb]; exact d3
  have d4' : decode c.code (pc + 4) = .ok (.ldc is, 2) := by rw [hb]; exact d4
  have hstr' : vk_R own is text sa s' := vk_R.warm hW0 hstr
  obtain ⟨U, hsteps, hrun, hend, hW, hsame, ce, hce, hO⟩ := X₁.ctorThrowS hexec htr (own := own) (cls := cls) (names := names) (ic := ic) hown' hcls hnames h (fun x hx => nomatch hx) hfX hkX hcellA (by rw [hhp, hT]; exact Nat.le_refl _) (msg := .ref sa) rfl
    (g := { method := m, pc := pc + 6, locals := ls, stack := .ref sa :: .ref T.heap.size :: .ref T.heap.size :: rest, locked := none }) rfl hsize rfl rfl (rest := rest) rfl
    (by rw [hb]; exact d6) (by rw [hb]; exact d9) hout hRframes (by simp only [List.map_cons, List.sum_cons, hcat]; omega) hlocks
  obtain ⟨f1, f2⟩ := vx_frame hsame
  rw [hhp] at f1 f2
  have hWs : s.WarmedH U.vm := State.WarmedH.trans hW0 hW
  have hcl : s.vm.findClass cls = some ce.cls := by
    have h9 := hO.cls
    rw [hvm] at h9
    exact h9
  have hall : s.sameButNew ({ U with vm := s.vm } : State) locs mc ms := by
    subst hA
    obtain ⟨e1, e2⟩ := hsame
    rw [State.setFrames_setFrames] at e1
    have h2 : (T.setVm s.vm).sameButNew ({ U with vm := s.vm } : State) [] (0 + 1) (0 + 6) := ⟨e1, e2⟩
    have h3 := X.same.trans h2
    rw [List.append_nil] at h3
    exact h3.mono hc hs
  refine ⟨U, ?_, .threw T.heap.size, hrun, hend, Or.inr ⟨T.heap.size, rfl, cls, ce, locs, hx U hWs.alike f1 (fun q hq => f2 q hq (fun z hz => nomatch hz)), hce, hO.vm, hcl, hWs, hall, hf⟩⟩
  refine st1 _ ?_
  show Steps p.tables e below (T1.setTop { method := m, pc := pc + 3, locals := ls, stack := .ref T.heap.size :: rest, locked := none }) _
  jvm_step X₁.here [X₁.here.top, hexec, d3', Value.category]
  exact X₁.ldcString hexec (own := own) (text := text) (index := is) (a := sa) hown' hstr'.1 hstr'.2
    (g := { method := m, pc := pc + 4, locals := ls, stack := .ref T.heap.size :: .ref T.heap.size :: rest, locked := none }) rfl d4' _ hsteps
/-- 'throw new E("text")', the text by a wide index -/
theorem vx_throwSW {cc : ByteArray} {pc : Nat} (hexec : p.tables.exec = Jvm.exec) (hb : c.code = cc) (hl : l.stackTraces = false) {own cls text : String} {names : List String} {ik is ic mc ms sa : Nat} {A : Nat → Prop}
    (hown : s.vm.findClass own = some m.cls) (hcls : Bundle.fit cls = true) (hnames : ∀ n ∈ names, Bundle.fit n = true)
    (hk : (Cond.classLink own ik cls).before args s = true) (hini : (Cond.initialized cls).before args s = true) (hstr : vk_R own is text sa s) (hat : ∀ w ∈ vx_atS own ic cls names, w.before args s = true)
    (hgood : ∀ w ∈ Cond.classLink own ik cls :: Cond.initialized cls :: vx_atS own ic cls names, vx_ot w = true)
    (hU : vx_Zq Bundle.tN "UNASSIGNED_STACK" Bundle.steD A s s.heap) (hN : vx_Zq Bundle.tN "SUPPRESSED_SENTINEL" Bundle.listD A s s.heap) (hS : va_S A s.heap H locs) (hsize : ls.size = c.maxLocals)
    (d0 : decode cc pc = .ok (.new ik, 3)) (d3 : decode cc (pc + 3) = .ok (.dup, 1)) (d4 : decode cc (pc + 4) = .ok (.ldc_w is, 3)) (d7 : decode cc (pc + 7) = .ok (.invokespecial ic, 3)) (d10 : decode cc (pc + 10) = .ok (.athrow, 1))
    (hout : ∀ x ∈ c.exceptionTable.toList, covers x (pc + 10) = false)
    (hRframes : names.length + 3 < R.frames) (hRlocals : (rest.map fun v => v.category).sum + (13 * (names.length + 1) + 43) ≤ R.locals) (hRcells : cells + 1 ≤ R.cells) (hRslots : slots + 6 ≤ R.slots) (hlocks : meth.locks = false)
    (hx : ∀ t : State, s.vm.Alike t.vm → H.size ≤ t.heap.size → (∀ q : Nat, q < H.size → t.heap[q]? = H[q]?) → XC cls s t)
    (hf : ∀ z ∈ locs, free z.base) (hc : cells + 1 ≤ mc) (hs : slots + 6 ≤ ms) :
    W p l e R s m args below meth c H locs cells slots (vx_MQ below Qc XC args s mc ms free) (F0 m pc ls rest) := by
  intro T hT X
  have htr : e.platform.stackTraces = false := (show e.platform.stackTraces = l.stackTraces by rw [X.admits.platform]).trans hl
  have Y := vx_rebase X (R' := { frames := R.frames, locals := R.locals, cells := 1, slots := 6 }) (Nat.le_refl _) (Nat.le_refl _) hRcells hRslots
  obtain ⟨s', hA⟩ : ∃ z, z = (T.setVm s.vm).setFrames (.invoking m args :: below) := ⟨_, rfl⟩
  rw [← hA] at Y
  have hvm : s'.vm = s.vm := by rw [hA]; rfl
  have hhp : s'.heap = H := by rw [hA]; exact hT
  have hW0 : s.WarmedH s'.vm := by rw [hvm]; exact State.WarmedH.refl s
  have hat' : ∀ w ∈ vx_atS own ic cls names, w.before args s' = true := fun w hw => vx_ot_at hW0 hvm.symm (hgood w (List.mem_cons_of_mem _ (List.mem_cons_of_mem _ hw))) (hat w hw)
  have hk' : (Cond.classLink own ik cls).before args s' = true := vx_ot_at hW0 hvm.symm (hgood _ List.mem_cons_self) hk
  have hini' : (Cond.initialized cls).before args s' = true := vx_ot_at hW0 hvm.symm (hgood _ (List.mem_cons_of_mem _ List.mem_cons_self)) hini
  have hU' : vx_Zq Bundle.tN "UNASSIGNED_STACK" Bundle.steD A s' s'.heap := by rw [hhp]; exact vx_Zq.moved hW0.alike (hU.kept hS.2.1)
  have hN' : vx_Zq Bundle.tN "SUPPRESSED_SENTINEL" Bundle.listD A s' s'.heap := by rw [hhp]; exact vx_Zq.moved hW0.alike (hN.kept hS.2.1)
  have h : ∀ w ∈ Bundle.ownAtoms own ic cls names, w.before args s' = true := vx_own hat' (vx_isRefq hU'.1) (vx_isRefq hN'.1) hU'.2.word hN'.2.word
  have hown' : s'.vm.findClass own = some m.cls := by rw [hvm]; exact hown
  have hins : (Cond.instantiable cls 6).before args s' = true := h _ (by simp [Bundle.ownAtoms])
  obtain ⟨vm₁, cX, kX, hfX, hkX, -, -, X₁, st1⟩ := Y.newCold hexec (own := own) (C := cls) (index := ik) (n := 6) hown' hk' hins hini'
    (g := F0 m pc ls rest) rfl (by rw [hb]; exact d0) (Nat.le_refl _) (Nat.le_refl _)
  generalize hT1 : (T.setVm vm₁).pushCell { cls := cX, slots := kX.instanceTypes.map defaultValue, vm := .none } = T1 at X₁ st1
  have hcat : (Value.ref T.heap.size).category = 1 := rfl
  have hcellA : T1.heap[T.heap.size]? = some (freshCell cX kX) := by rw [← hT1]; exact State.heap_pushCell_size _ _
  have d3' : decode c.code (pc + 3) = .ok (.dup, 1) := by rw [hb]; exact d3
  have d4' : decode c.code (pc + 4) = .ok (.ldc_w is, 3) := by rw [hb]; exact d4
  have hstr' : vk_R own is text sa s' := vk_R.warm hW0 hstr
  obtain ⟨U, hsteps, hrun, hend, hW, hsame, ce, hce, hO⟩ := X₁.ctorThrowS hexec htr (own := own) (cls := cls) (names := names) (ic := ic) hown' hcls hnames h (fun x hx => nomatch hx) hfX hkX hcellA (by rw [hhp, hT]; exact Nat.le_refl _) (msg := .ref sa) rfl
    (g := { method := m, pc := pc + 7, locals := ls, stack := .ref sa :: .ref T.heap.size :: .ref T.heap.size :: rest, locked := none }) rfl hsize rfl rfl (rest := rest) rfl
    (by rw [hb]; exact d7) (by rw [hb]; exact d10) hout hRframes (by simp only [List.map_cons, List.sum_cons, hcat]; omega) hlocks
  obtain ⟨f1, f2⟩ := vx_frame hsame
  rw [hhp] at f1 f2
  have hWs : s.WarmedH U.vm := State.WarmedH.trans hW0 hW
  have hcl : s.vm.findClass cls = some ce.cls := by
    have h9 := hO.cls
    rw [hvm] at h9
    exact h9
  have hall : s.sameButNew ({ U with vm := s.vm } : State) locs mc ms := by
    subst hA
    obtain ⟨e1, e2⟩ := hsame
    rw [State.setFrames_setFrames] at e1
    have h2 : (T.setVm s.vm).sameButNew ({ U with vm := s.vm } : State) [] (0 + 1) (0 + 6) := ⟨e1, e2⟩
    have h3 := X.same.trans h2
    rw [List.append_nil] at h3
    exact h3.mono hc hs
  refine ⟨U, ?_, .threw T.heap.size, hrun, hend, Or.inr ⟨T.heap.size, rfl, cls, ce, locs, hx U hWs.alike f1 (fun q hq => f2 q hq (fun z hz => nomatch hz)), hce, hO.vm, hcl, hWs, hall, hf⟩⟩
  refine st1 _ ?_
  show Steps p.tables e below (T1.setTop { method := m, pc := pc + 3, locals := ls, stack := .ref T.heap.size :: rest, locked := none }) _
  jvm_step X₁.here [X₁.here.top, hexec, d3', Value.category]
  exact X₁.ldcStringW hexec (own := own) (text := text) (index := is) (a := sa) hown' hstr'.1 hstr'.2
    (g := { method := m, pc := pc + 4, locals := ls, stack := .ref T.heap.size :: .ref T.heap.size :: rest, locked := none }) rfl d4' _ hsteps
end Ends
section Bodies
variable {l : Launch}
theorem vx_ofW {y : MethodName} {ws ws' : List Cond} {rm : Room} {Pc : Array Value → State → Prop} {Qc : Array Value → State → Outcome → State → Prop} {XC : String → State → State → Prop} {mc ms : Nat} {free : Addr → Prop} {cc : ByteArray} {maxL : Nat} {ret : Option FieldType}
    (hy : plainName y.cls = true) (hw : ws = Cond.code y cc maxL ret :: ws')
    (body : ∀ p e s m args below meth c s₁, BodyLoose p l y (headSpec ws rm) cc maxL ret e s m args below meth c s₁ → c.maxLocals = maxL → (∀ x ∈ c.exceptionTable.toList, False) → Pc args s →
      W p l e (headSpec ws rm).room s m args below meth c s.heap [] 0 0 (vx_MQ below Qc XC args s mc ms free) (entryFrame m args maxL)) : vx_Met l y ws rm Pc Qc XC mc ms free := by
  refine MetFree.of_bodyS (code := cc) (maxLocals := maxL) (ret := ret) hy ?_ ?_
  · intro args s m h hn
    obtain ⟨meth, c, h1, h2, h3, h4, h5, h6, -, -⟩ := Cond.code_spec hn (atoms_spec (ws := ws) h _ (by rw [hw]; exact List.mem_cons_self))
    exact ⟨meth, c, h1, h2, h3, h4, h5, h6⟩
  · intro p e s m args below meth c s₁ B hml hP _
    have hh0 : s₁.heap = s.heap := by rw [B.state]; rfl
    have ht : ∀ x ∈ c.exceptionTable.toList, False := by
      obtain ⟨meth9, c9, h1, h2, -, -, -, -, h7, -⟩ := Cond.code_spec B.named (atoms_spec (ws := ws) B.pre _ (by rw [hw]; exact List.mem_cons_self))
      cases Option.some.inj (h1.symm.trans B.method)
      cases Option.some.inj (h2.symm.trans (Stand.of_body B).code)
      intro x hx
      rw [Array.isEmpty_iff.mp h7] at hx
      cases hx
    obtain ⟨t, a1, o, b1, b2, b3⟩ := body p e s m args below meth c s₁ B hml ht hP s₁ hh0 (Stand.of_body B)
    exact ⟨t, o, a1, b1, b2, b3⟩
/-- the table of a body with handlers -/
theorem vx_table {p : Program} {x y : MethodName} {S : Spec} {cc bytes : ByteArray} {maxL maxL' : Nat} {ret ret' : Option FieldType} {e : Env} {s s₁ : State} {m : MethodId} {args : Array Value} {below : List Frame} {meth : Method} {c : Code} {hh : List (Nat × Nat × Nat × Nat)}
    (B : BodyLoose p l y S cc maxL ret e s m args below meth c s₁) (h : (Cond.codeWith y bytes maxL' ret' hh).before args s = true) : c.exceptionTable.toList = tableOf hh := by
  obtain ⟨m9, meth9, c9, hn9, h1, h2, -, -, h6, -⟩ := Cond.codeWith_spec h
  cases Option.some.inj (hn9.symm.trans B.named)
  cases Option.some.inj (h1.symm.trans B.method)
  cases Option.some.inj (h2.symm.trans (Stand.of_body B).code)
  rw [← h6, table_eq]
end Bodies
end VXA
/-! ===== END ===== -/
/-! ===== BEGIN a static call of a method with an exception table ===== -/
section VXS
variable {p : Program} {l : Launch} {e : Env} {R : Room} {s : State} {m : MethodId} {args : Array Value} {below : List Frame} {meth : Method} {c : Code} {T : State} {H : Heap} {locs : List Loc} {cells slots : Nat}
abbrev vx_CSW (R : Room) (s : State) (args : Array Value) (own : String) (index : Nat) (y : MethodName) (bytes : ByteArray) (maxL : Nat) (ret : Option FieldType) (hh : List (Nat × Nat × Nat × Nat)) (ws : List Cond) (rm : Room) (mc ms n : Nat) : Prop :=
  (rm.cells = mc ∧ rm.slots = ms ∧ rm.frames + 1 ≤ R.frames ∧ 8 + (maxL + 11) + rm.locals ≤ R.locals ∧ (∀ w ∈ ws, ∀ (a' : Array Value) (U : State), s.WarmedH U.vm → w.before a' U = true) ∧ Cond.codeWith y bytes maxL ret hh ∈ ws) ∧
  (Cond.codeWith y bytes maxL ret hh).before args s = true ∧ (Cond.initialized y.cls).before args s = true ∧ (y.cls ≠ "java/lang/invoke/MethodHandle" ∧ y.cls ≠ "java/lang/invoke/VarHandle") ∧
  (∀ sig, parseMethodDescriptor y.desc = some sig → n = sig.parameters.length) ∧ (Cond.methodLink own index y).before args s = true ∧ (Cond.static y).before args s = true
theorem vx_cwSW {own : String} {index maxL mc ms : Nat} {y : MethodName} {bytes : ByteArray} {ret : Option FieldType} {hh : List (Nat × Nat × Nat × Nat)} {Ts ws ws' : List Cond} {rm : Room} (n : Nat) (ht : ∀ w ∈ Ts, w.before args s = true) (hT : GoodIn Ts (va_wsS own index y ws)) (hw : ws = Cond.codeWith y bytes maxL ret hh :: ws') (hrc : rm.cells = mc) (hrs : rm.slots = ms)
    (hd : y.cls ≠ "java/lang/invoke/MethodHandle" ∧ y.cls ≠ "java/lang/invoke/VarHandle" ∧ (parseMethodDescriptor y.desc).map (fun d => d.parameters.length) = some n) (hR : rm.frames + 1 ≤ R.frames ∧ 8 + (maxL + 11) + rm.locals ≤ R.locals) :
    vx_CSW R s args own index y bytes maxL ret hh ws rm mc ms n := by
  have ok : ∀ w ∈ va_wsS own index y ws, w.before args s = true := fun w h => ht w (hT w h).1
  have hG : GoodIn Ts ws := fun w h => hT w (by unfold va_wsS; exact List.mem_append_right _ h)
  have hc : Cond.codeWith y bytes maxL ret hh ∈ ws := by rw [hw]; exact List.mem_cons_self
  refine ⟨⟨hrc, hrs, hR.1, hR.2, pay_in ht hG, hc⟩, ht _ (hG _ hc).1, ok _ (by simp [va_wsS]), ⟨hd.1, hd.2.1⟩, fun sig h => ?_, ok _ (by simp [va_wsS]), ok _ (by simp [va_wsS])⟩
  have h2 := hd.2.2
  rw [h] at h2
  exact (Option.some.inj h2).symm
theorem vx_callSW (X : Stand p l e R s m args below meth c T locs cells slots) (hexec : p.tables.exec = Jvm.exec) {own : String} {index : Nat} {y : MethodName} {bytes : ByteArray} {maxL : Nat} {ret : Option FieldType} {hh : List (Nat × Nat × Nat × Nat)}
    (hown : s.vm.findClass own = some m.cls) (hlink : (Cond.methodLink own index y).before args s = true) (hstat : (Cond.static y).before args s = true) (hinit : (Cond.initialized y.cls).before args s = true)
    (hcode : (Cond.codeWith y bytes maxL ret hh).before args s = true) (hy : y.cls ≠ "java/lang/invoke/MethodHandle" ∧ y.cls ≠ "java/lang/invoke/VarHandle")
    {W9 : Nat} {Pre : Pt → Array Value → Prop} {Post : Pt → Array Value → Option Value → Pt → Prop} (hK : Back l R p e below s args y 3 W9 Pre Post)
    {g : JFrame} (hg : g.method = m) (hsize : g.locals.size = c.maxLocals) {argsL rest : List Value} (hlen : ∀ sig, parseMethodDescriptor y.desc = some sig → argsL.length = sig.parameters.length)
    (hstack : g.stack = argsL.reverse ++ rest) (hW : 2 * g.monitorRoom + (rest.map fun v => v.category).sum ≤ W9) (hdg : decode c.code g.pc = .ok (.invokestatic index, 3))
    (hpre : ∀ vm₁, s.WarmedH vm₁ → Pre ⟨T.setVm vm₁, locs, cells, slots⟩ argsL.toArray) :
    ∃ (v : Option Value) (vm₁ : Vm) (B : Pt), s.WarmedH vm₁ ∧ Stand p l e R s m args below meth c B.U B.locs B.cells B.slots ∧ Post ⟨T.setVm vm₁, locs, cells, slots⟩ argsL.toArray v B ∧
      ∀ target, Steps p.tables e below (B.U.setTop { g with pc := g.pc + 3, stack := v.toList ++ rest }) target → Steps p.tables e below (T.setTop g) target := by
  obtain ⟨mk, methM, cM, hnamed, hmethM, -, -, -, -, -, -, hsigM⟩ := Cond.codeWith_spec hcode
  have hstatic : methM.isStatic = true := Cond.static_spec hnamed hmethM hstat
  obtain ⟨kP, hkP, -⟩ := className_of_methodNamed hnamed
  have hinitP : kP.init = .initialized := Cond.initialized_spec (findClass_of_methodNamed hnamed) hkP hinit
  obtain ⟨vm₁, X₁, hstep₁⟩ := X.invokestatic hexec hown hlink hnamed hmethM hstatic hkP hinitP hy (g := g) hg (argsL := argsL) (rest := rest) (hlen _ hsigM) hstack hdg
  obtain ⟨v, B, X', hpost, hsteps⟩ := hK m meth c ⟨T.setVm vm₁, locs, cells, slots⟩ { g with stack := rest } (.invokestatic index) mk argsL.toArray X₁ hg hsize hdg hW (X₁.named hnamed) (hpre vm₁ X₁.warmed)
  exact ⟨v, vm₁, B, X₁.warmed, X', hpost, fun target h => hstep₁ _ fun acts => by rw [doInvoke_state]; exact hsteps.trans h⟩
theorem vx_runSW {y : MethodName} {bytes cc : ByteArray} {maxL nL mc ms n index : Nat} {ret : Option FieldType} {hh : List (Nat × Nat × Nat × Nat)} {ws : List Cond} {rm : Room} {Pc : Array Value → State → Prop} {Qc : Array Value → State → Outcome → State → Prop} {free : Addr → Prop} {Ts : List Cond} {own : String} {As rest : List Value} {g : JFrame}
    (S : CallFix p m c cc nL s args Ts own) (hM : Met l y ws rm Pc Qc mc ms free) (cw : vx_CSW R s args own index y bytes maxL ret hh ws rm mc ms n) (hp : PreS s H Pc As)
    (hg : g.method = m) (hn : As.length = n) (hsize : g.locals.size = nL) (hstack : g.stack = As.reverse ++ rest) (hW : 2 * g.monitorRoom + (rest.map fun v => v.category).sum ≤ 8) (hdg : decode cc g.pc = .ok (.invokestatic index, 3)) (hf : cells + mc ≤ R.cells ∧ slots + ms ≤ R.slots) :
    va_Run p l e R s m args below meth c H locs cells slots mc ms g rest (Qc As.toArray) (free) := by
  obtain ⟨⟨hrc, hrs, hfr, hlo, hws, hcw⟩, hcode, hini, hy, hlen, hl, hstt⟩ := cw
  have hK : Back l R p e below s args y 3 8 (PreOf R mc ms Pc) (PostOf Qc mc ms free) := va_backW (hh := hh) (bytes := bytes) (maxL := maxL) (ret := ret) hM hp.1 hrc hrs hfr hlo hws hcw (fun a' U hW => word_at hW (Or.inl (by first | rfl | simp [Cond.onTables, Cond.keeps, Cond.steady])) hini)
  obtain ⟨hx, hb, hml, ho, -⟩ := S
  intro T hT X
  obtain ⟨v, vm₁, ⟨U', l2, c2, s2⟩, hW₁, X', ⟨g', mk, t, L, e1, e2, hq, h1, hL, h2, h3⟩, st⟩ := vx_callSW X hx (hh := hh) (bytes := bytes) (maxL := maxL) (ret := ret) ho hl hstt hini hcode hy hK hg (hsize.trans hml.symm) (argsL := As) (rest := rest) (fun sig h => hn.trans (hlen sig h)) hstack hW (by rw [hb]; exact hdg)
    (fun vm₁ hW₁ => ⟨hf.1, hf.2, hp.2 (T.setVm vm₁) hT hW₁⟩)
  dsimp only [Pt.U, Pt.locs, Pt.cells, Pt.slots] at X' e1 e2 h1 h2 h3 st
  subst h1; subst h2; subst h3
  exact ⟨v, (T.setVm vm₁).calling g' mk As.toArray, t, U', L, hT, X', hL, e1, e2, hq, st⟩
/-- not caught here, past rows that name other classes: it goes on to the caller -/
theorem vx_outP {p : Program} {l : Launch} {e : Env} {R : Room} {s : State} {m : MethodId} {args : Array Value} {below : List Frame} {meth : Method} {c : Code} {H : Heap} {locs : List Loc} {cells slots : Nat} {free : Addr → Prop} {ls : Array Slot} {rest : List Value} {Qc : Array Value → State → Outcome → State → Prop} {XC : String → State → State → Prop}
    {pc : Nat} {own E : String} {ce : Cell} {q : Addr} {mc ms : Nat} (hown : s.vm.findClass own = some m.cls) (hlocks : meth.locks = false)
    (hpass : ∀ z ∈ c.exceptionTable.toList, covers z pc = false ∨ (z.catchType ≠ 0 ∧ ∃ nm : String, (Cond.classLink own z.catchType nm).before args s = true ∧ va_Nc E nm s)) (hcell : H[q]? = some ce) (hv : ce.vm = .none) (hcl : s.vm.findClass E = some ce.cls)
    (hx : ∀ t : State, t.heap = H → s.vm.Alike t.vm → XC E s t) (hf : ∀ z ∈ locs, free z.base) (hc : cells ≤ mc) (hs : slots ≤ ms) :
    vx_W p l e R s m args below meth c H locs cells slots (vx_MQ below Qc XC args s mc ms free) (F0 m pc ls rest) q := by
  intro T hT X
  have hpl : e.platform.magicAccessors = ({} : Platform).magicAccessors := by rw [X.admits.platform]
  obtain ⟨vm', hW', X', st⟩ := X.outThrough hlocks q (g := F0 m pc ls rest) rfl rfl rfl (cell := ce) (by rw [hT]; exact hcell) (by rw [hv]; rfl)
    (by obtain ⟨k9, h9, -⟩ := Vm.findClass_spec hcl; exact ⟨k9, h9⟩) (fun z hz => by
      rcases hpass z hz with h | ⟨hz0, nm, hl1, hn1⟩
      · exact Or.inl h
      · obtain ⟨c6, hc6, hcl6⟩ := Cond.classLink_spec hown hl1 e.platform hpl
        obtain ⟨a8, b8, h1, h2, h3⟩ := hn1
        cases Option.some.inj (h1.symm.trans hcl)
        cases Option.some.inj (h2.symm.trans hc6)
        exact Or.inr ⟨hz0, _, hcl6, h3⟩)
  obtain ⟨g₀, hfr⟩ := X'.frames_eq
  have hcell9 : ((T.setVm vm').setFrames (.throwing q :: below)).heap[q]? = some ce := by
    show T.heap[q]? = some ce
    rw [hT]; exact hcell
  have hend : Ended ((T.setVm vm').setFrames (.throwing q :: below)) below (.threw q) := State.frames_setFrames _ (State.cur_lt_of_frames hfr)
  refine ⟨(T.setVm vm').setFrames (.throwing q :: below), ?_, .threw q, X'.here.running, hend, Or.inr ⟨q, rfl, E, ce, locs, hx _ hT (X'.ends _).1.alike, hcell9, hv, hcl, (X'.ends _).1, (X'.ends _).2.mono hc hs, hf⟩⟩
  rw [X.pushThrowing_eq]
  exact st
/-- a thing of a world lies in the heap -/
theorem vx_lt {D : va_G} {cl : List vw_C} {ws : va_W} {H1 : Heap} (h : va_P D cl ws H1) {k : Nat} {q : Nat × va_E} (hk : ws[k]? = some q) : q.1 < H1.size := (h k q hk).lt
end VXS
/-! ===== END ===== -/
/-! ===== BEGIN methods with a table of their own: called by a name, returning or throwing ===== -/
section VXH
/-! vx_backW, vx_callVX, vx_callSX, vx_callVW, vx_runVW, vx_runVX, vx_runSX, vx_ofWH follow the same proofs as their sisters above (Free/Laws.lean, Shelf42/LK1.lean); vx_outP calls Shelf42/NT130.lean (outThrough). -/
section
variable {l : Launch} {R : Room} {p : Program} {e : Env} {below : List Frame} {s : State} {sargs : Array Value} {y : MethodName} {len W9 : Nat}
theorem vx_backW {ws : List Cond} {rm : Room} {Pc : Array Value → State → Prop} {Qc : Array Value → State → Outcome → State → Prop} {XC : String → State → State → Prop} {mc ms : Nat} {free : Addr → Prop} {bytes : ByteArray} {maxL : Nat} {ret : Option FieldType} {hh : List (Nat × Nat × Nat × Nat)}
    (hM : vx_Met l y ws rm Pc Qc XC mc ms free) (hblind : FrameBlind Pc) (hrc : rm.cells = mc) (hrs : rm.slots = ms)
    (hframes : rm.frames + 1 ≤ R.frames) (hlocals : W9 + (maxL + 11) + rm.locals ≤ R.locals)
    (hws : ∀ w ∈ ws, ∀ a' U, s.WarmedH U.vm → w.before a' U = true) (hcode : Cond.codeWith y bytes maxL ret hh ∈ ws) (hinit : ∀ a' U, s.WarmedH U.vm → (Cond.initialized y.cls).before a' U = true) :
    vx_Back l R p e below s sargs y len W9 (PreOf R mc ms Pc) (PostOf Qc mc ms free) (vx_Post XC mc ms free) := by
  intro m meth c A g ig mk a X hg hsize hdg hW hn hp
  have h1 : (headSpec ws rm).pre.before a A.U = true := atoms_intro fun w hw => hws w hw _ _ X.warmed
  have h2 : (Cond.codeWith y bytes maxL ret hh).before a A.U = true := hws _ hcode _ _ X.warmed
  have h3 : (Cond.initialized y.cls).before a A.U = true := hinit _ _ X.warmed
  have h4 : A.cells + (headSpec ws rm).room.cells ≤ R.cells := by rw [show (headSpec ws rm).room.cells = mc from hrc]; exact hp.1
  have h5 : A.slots + (headSpec ws rm).room.slots ≤ R.slots := by rw [show (headSpec ws rm).room.slots = ms from hrs]; exact hp.2.1
  have hPc : Pc a (A.U.calling g mk a) := hblind _ _ _ _ hp.2.2
  obtain ⟨U, Ls, c0, s0⟩ := A
  dsimp only [Pt.U, Pt.locs, Pt.cells, Pt.slots] at h1 h2 h3 h4 h5 X hn hPc ⊢
  obtain ⟨m9, methY, cY, hn9, hmY, hcY, -, hlY, -⟩ := Cond.codeWith_spec h2
  cases Option.some.inj (hn9.symm.trans hn)
  obtain ⟨kY, hkY, -⟩ := className_of_methodNamed hn
  have hinitY : kY.init = .initialized := Cond.initialized_spec (findClass_of_methodNamed hn) hkY h3
  have h : At U g.method c below := by rw [hg]; exact X.here
  have hlocals9 : W9 + (maxL + 11) + (headSpec ws rm).room.locals ≤ R.locals := hlocals
  have happ : (headSpec ws rm).appliesLoose y e.platform (U.calling g mk a) = true :=
    Spec.appliesLoose_calling (g := g) h hdg hn hkY hinitY
      (X.room_calling (g := g) (R' := (headSpec ws rm).room) hsize hmY hcY hframes (by rw [hlY]; omega) h4 h5) h1
  obtain ⟨mid, hmid⟩ := h.above
  have hfr : (U.setTop g).frames = (.java g :: mid) ++ below := by rw [State.frames_setTop' g h.top, hmid]; rfl
  obtain ⟨o, s₂, hsteps, -, hend, hq⟩ := Steps.callFree hM p X.admits X.cas X.clock (acts := []) hfr happ hPc trivial
  have hq' : vx_Q Qc XC mc ms free a (U.calling g mk a) o s₂ := hq
  rw [State.frames_setTop' g h.top] at hend
  obtain ⟨g₀, hg0⟩ := Option.isSome_iff_exists.mp h.top
  obtain ⟨r, hr⟩ := State.topJava?_eq_some.mp hg0
  have hr' : (({ U with heap := s₂.heap, slotsUsed := s₂.slotsUsed } : State).setVm s₂.vm).frames = .java g₀ :: r := hr
  rcases hq' with ⟨hqc, L, hfe, hL⟩ | ⟨q, rfl, E, ce, L, hx, hce, hcv, hcl, hW₂, hsm, hL⟩
  · obtain ⟨⟨v, rfl⟩, hW₂, e2, q2, q3, q4, q5, q6⟩ := id hfe
    have e3 : s₂ = ({ (U.calling g mk a).setFrames s₂.frames with heap := s₂.heap, slotsUsed := s₂.slotsUsed } : State).setVm s₂.vm := by
      have : s₂ = ({ s₂ with vm := (U.calling g mk a).vm } : State).setVm s₂.vm := rfl
      rw [e2] at this
      exact this
    obtain ⟨c₂, i₂, len₂, hc₂, hd₂, hf₂⟩ := hend
    have hW' : U.WarmedH s₂.vm := hW₂
    have hcc : c₂ = c := by
      have h1 : s₂.code? g.method = U.code? g.method := by
        rw [State.code?_eq, State.code?_eq, hW'.alike.method?]
      exact Option.some.inj (hc₂.symm.trans (h1.trans h.code))
    subst hcc
    have hlen : len₂ = len := by rw [hdg] at hd₂; cases hd₂; rfl
    subst hlen
    have hs₂ : s₂ = (({ U with heap := s₂.heap, slotsUsed := s₂.slotsUsed } : State).setVm s₂.vm).setTop { g with pc := g.pc + len₂, stack := v.toList ++ g.stack } := by
      refine e3.trans ?_
      rw [hf₂, State.calling_eq h.top, State.setFrames_setFrames, State.setTop_of_frames _ hr', hr]
      rfl
    have hsame : U.sameButNew ({ U with heap := s₂.heap, slotsUsed := s₂.slotsUsed } : State) L mc ms := by
      refine ⟨?_, q2, q3, q4, q5, q6⟩
      obtain ⟨t, ht, -⟩ := State.frames_cons hr
      show ({ U with heap := s₂.heap, slotsUsed := s₂.slotsUsed } : State) = { U.setFrames U.frames with heap := s₂.heap, slotsUsed := s₂.slotsUsed }
      rw [State.setFrames_self ht]
    subst hg
    refine Or.inl ⟨v, ⟨(({ U with heap := s₂.heap, slotsUsed := s₂.slotsUsed } : State).setVm s₂.vm), Ls ++ L, c0 + mc, s0 + ms⟩,
      ⟨X.admits, X.cas, X.clock, X.frames, X.room, X.hears, X.method, X.code, (X.here.setHeapUsed s₂.heap s₂.slotsUsed).setVm hW'.alike, X.tail, State.WarmedH.trans X.warmed hW', X.limits, X.bytes, X.same.trans (hsame.setVm s.vm)⟩,
      ⟨g, mk, s₂, L, rfl, rfl, hqc, rfl, hL, rfl, rfl⟩, ?_⟩
    show Steps p.tables e below _ ((({ U with heap := s₂.heap, slotsUsed := s₂.slotsUsed } : State).setVm s₂.vm).setTop { g with pc := g.pc + len₂, stack := v.toList ++ g.stack })
    rw [← hs₂]
    exact hsteps
  · obtain ⟨e2, q2, q3, q4, q5, q6⟩ := id hsm
    have e3 : s₂ = ({ (U.calling g mk a).setFrames s₂.frames with heap := s₂.heap, slotsUsed := s₂.slotsUsed } : State).setVm s₂.vm := by
      have : s₂ = ({ s₂ with vm := (U.calling g mk a).vm } : State).setVm s₂.vm := rfl
      rw [e2] at this
      exact this
    have hf₂ : s₂.frames = .throwing q :: .java g :: U.frames.tail := hend
    have hW' : U.WarmedH s₂.vm := hW₂
    have hs₂ : s₂ = ((({ U with heap := s₂.heap, slotsUsed := s₂.slotsUsed } : State).setVm s₂.vm).setTop g).pushFrame (.throwing q) := by
      refine e3.trans ?_
      rw [hf₂, State.calling_eq h.top, State.setFrames_setFrames, State.pushFrame, State.frames_setTop _ hr', State.setTop_of_frames _ hr', State.setFrames_setFrames, hr]
      rfl
    have hsame : U.sameButNew ({ U with heap := s₂.heap, slotsUsed := s₂.slotsUsed } : State) L mc ms := by
      refine ⟨?_, q2, q3, q4, q5, q6⟩
      obtain ⟨t, ht, -⟩ := State.frames_cons hr
      show ({ U with heap := s₂.heap, slotsUsed := s₂.slotsUsed } : State) = { U.setFrames U.frames with heap := s₂.heap, slotsUsed := s₂.slotsUsed }
      rw [State.setFrames_self ht]
    subst hg
    refine Or.inr ⟨q, ⟨(({ U with heap := s₂.heap, slotsUsed := s₂.slotsUsed } : State).setVm s₂.vm), Ls ++ L, c0 + mc, s0 + ms⟩,
      ⟨X.admits, X.cas, X.clock, X.frames, X.room, X.hears, X.method, X.code, (X.here.setHeapUsed s₂.heap s₂.slotsUsed).setVm hW'.alike, X.tail, State.WarmedH.trans X.warmed hW', X.limits, X.bytes, X.same.trans (hsame.setVm s.vm)⟩,
      ⟨g, mk, s₂, L, E, ce, rfl, rfl, hx, hce, hcv, hcl, rfl, hL, rfl, rfl⟩, ?_⟩
    show Steps p.tables e below _ (((({ U with heap := s₂.heap, slotsUsed := s₂.slotsUsed } : State).setVm s₂.vm).setTop g).pushFrame (.throwing q))
    rw [← hs₂]
    exact hsteps
end
variable {p : Program} {l : Launch} {e : Env} {R : Room} {s : State} {m : MethodId} {args : Array Value} {below : List Frame} {meth : Method} {c : Code} {T : State} {H : Heap} {locs : List Loc} {cells slots : Nat}
theorem vx_callVX (X : Stand p l e R s m args below meth c T locs cells slots) (hexec : p.tables.exec = Jvm.exec) {own C : String} {index : Nat} {y : MethodName} {bytes : ByteArray} {maxL : Nat} {ret : Option FieldType} {hh : List (Nat × Nat × Nat × Nat)}
    (hown : s.vm.findClass own = some m.cls) (hlink : (Cond.methodLink own index y).before args s = true) (hinst : (Cond.instanceMethod y).before args s = true) (hsel : (Cond.selects C y y).before args s = true)
    (hcode : (Cond.codeWith y bytes maxL ret hh).before args s = true) (hy : y.cls ≠ "java/lang/invoke/MethodHandle" ∧ y.cls ≠ "java/lang/invoke/VarHandle")
    {W9 : Nat} {Pre : Pt → Array Value → Prop} {Post : Pt → Array Value → Option Value → Pt → Prop} {PostX : Pt → Array Value → Addr → Pt → Prop} (hK : vx_Back l R p e below s args y 3 W9 Pre Post PostX)
    {b : Addr} {cellB : Cell} (hcell : T.heap[b]? = some cellB) (hobj : cellB.vm.isStatics = false) (hcls : s.vm.findClass C = some cellB.cls)
    {g : JFrame} (hg : g.method = m) (hsize : g.locals.size = c.maxLocals) {argsL rest : List Value} (hlen : ∀ sig, parseMethodDescriptor y.desc = some sig → argsL.length = sig.parameters.length)
    (hstack : g.stack = argsL.reverse ++ .ref b :: rest) (hW : 2 * g.monitorRoom + (rest.map fun v => v.category).sum ≤ W9) (hdg : decode c.code g.pc = .ok (.invokevirtual index, 3))
    (hpre : ∀ vm₁, s.WarmedH vm₁ → Pre ⟨T.setVm vm₁, locs, cells, slots⟩ (Value.ref b :: argsL).toArray) :
    (∃ (v : Option Value) (vm₁ : Vm) (B : Pt), s.WarmedH vm₁ ∧ Stand p l e R s m args below meth c B.U B.locs B.cells B.slots ∧ Post ⟨T.setVm vm₁, locs, cells, slots⟩ (Value.ref b :: argsL).toArray v B ∧
      ∀ target, Steps p.tables e below (B.U.setTop { g with pc := g.pc + 3, stack := v.toList ++ rest }) target → Steps p.tables e below (T.setTop g) target) ∨
    (∃ (q : Addr) (vm₁ : Vm) (B : Pt), s.WarmedH vm₁ ∧ Stand p l e R s m args below meth c B.U B.locs B.cells B.slots ∧ PostX ⟨T.setVm vm₁, locs, cells, slots⟩ (Value.ref b :: argsL).toArray q B ∧
      Steps p.tables e below (T.setTop g) ((B.U.setTop { g with stack := rest }).pushFrame (.throwing q))) := by
  obtain ⟨mk, methM, hnamed, hmethM, hstM, habM⟩ := Cond.instanceMethod_spec hinst
  obtain ⟨m8, methM', cM, hn8, hmethM', -, -, -, -, -, -, hsigM⟩ := Cond.codeWith_spec hcode
  cases Option.some.inj (hn8.symm.trans hnamed)
  cases hmethM.symm.trans hmethM'
  obtain ⟨c2, r2, m2, q1, q2, q3, q4, kP, hkP, hkPi⟩ := Cond.selects_spec hsel
  cases hcls.symm.trans q1
  cases (State.methodFound?_of_named hnamed hy).symm.trans q2
  cases hnamed.symm.trans q3
  have hselP : selectMethod e.platform s.vm cellB.cls mk = .method mk := by rw [Launch.admits_selectMethod X.admits]; exact q4
  obtain ⟨vm₁, X₁, hstep₁⟩ := X.invokevirtual hexec hown hlink hnamed hmethM hstM hkP hkPi hy (a := b) (cell := cellB) hcell
    (fun z h => by rw [h] at hobj; cases hobj) hselP hmethM habM hkP hkPi (g := g) hg (argsL := argsL) (rest := rest) (hlen _ hsigM) hstack hdg
  rcases hK m meth c ⟨T.setVm vm₁, locs, cells, slots⟩ { g with stack := rest } (.invokevirtual index) mk (Value.ref b :: argsL).toArray X₁ hg hsize hdg hW (X₁.named hnamed) (hpre vm₁ X₁.warmed) with ⟨v, B, X', hpost, hsteps⟩ | ⟨q, B, X', hpost, hsteps⟩
  · exact Or.inl ⟨v, vm₁, B, X₁.warmed, X', hpost, fun target h => hstep₁ _ fun acts => by rw [doInvoke_state]; exact hsteps.trans h⟩
  · exact Or.inr ⟨q, vm₁, B, X₁.warmed, X', hpost, hstep₁ _ fun acts => by rw [doInvoke_state]; exact hsteps⟩
theorem vx_callSX (X : Stand p l e R s m args below meth c T locs cells slots) (hexec : p.tables.exec = Jvm.exec) {own : String} {index : Nat} {y : MethodName} {bytes : ByteArray} {maxL : Nat} {ret : Option FieldType} {hh : List (Nat × Nat × Nat × Nat)}
    (hown : s.vm.findClass own = some m.cls) (hlink : (Cond.methodLink own index y).before args s = true) (hstat : (Cond.static y).before args s = true) (hinit : (Cond.initialized y.cls).before args s = true)
    (hcode : (Cond.codeWith y bytes maxL ret hh).before args s = true) (hy : y.cls ≠ "java/lang/invoke/MethodHandle" ∧ y.cls ≠ "java/lang/invoke/VarHandle")
    {W9 : Nat} {Pre : Pt → Array Value → Prop} {Post : Pt → Array Value → Option Value → Pt → Prop} {PostX : Pt → Array Value → Addr → Pt → Prop} (hK : vx_Back l R p e below s args y 3 W9 Pre Post PostX)
    {g : JFrame} (hg : g.method = m) (hsize : g.locals.size = c.maxLocals) {argsL rest : List Value} (hlen : ∀ sig, parseMethodDescriptor y.desc = some sig → argsL.length = sig.parameters.length)
    (hstack : g.stack = argsL.reverse ++ rest) (hW : 2 * g.monitorRoom + (rest.map fun v => v.category).sum ≤ W9) (hdg : decode c.code g.pc = .ok (.invokestatic index, 3))
    (hpre : ∀ vm₁, s.WarmedH vm₁ → Pre ⟨T.setVm vm₁, locs, cells, slots⟩ argsL.toArray) :
    (∃ (v : Option Value) (vm₁ : Vm) (B : Pt), s.WarmedH vm₁ ∧ Stand p l e R s m args below meth c B.U B.locs B.cells B.slots ∧ Post ⟨T.setVm vm₁, locs, cells, slots⟩ argsL.toArray v B ∧
      ∀ target, Steps p.tables e below (B.U.setTop { g with pc := g.pc + 3, stack := v.toList ++ rest }) target → Steps p.tables e below (T.setTop g) target) ∨
    (∃ (q : Addr) (vm₁ : Vm) (B : Pt), s.WarmedH vm₁ ∧ Stand p l e R s m args below meth c B.U B.locs B.cells B.slots ∧ PostX ⟨T.setVm vm₁, locs, cells, slots⟩ argsL.toArray q B ∧
      Steps p.tables e below (T.setTop g) ((B.U.setTop { g with stack := rest }).pushFrame (.throwing q))) := by
  obtain ⟨mk, methM, cM, hnamed, hmethM, -, -, -, -, -, -, hsigM⟩ := Cond.codeWith_spec hcode
  have hstatic : methM.isStatic = true := Cond.static_spec hnamed hmethM hstat
  obtain ⟨kP, hkP, -⟩ := className_of_methodNamed hnamed
  have hinitP : kP.init = .initialized := Cond.initialized_spec (findClass_of_methodNamed hnamed) hkP hinit
  obtain ⟨vm₁, X₁, hstep₁⟩ := X.invokestatic hexec hown hlink hnamed hmethM hstatic hkP hinitP hy (g := g) hg (argsL := argsL) (rest := rest) (hlen _ hsigM) hstack hdg
  rcases hK m meth c ⟨T.setVm vm₁, locs, cells, slots⟩ { g with stack := rest } (.invokestatic index) mk argsL.toArray X₁ hg hsize hdg hW (X₁.named hnamed) (hpre vm₁ X₁.warmed) with ⟨v, B, X', hpost, hsteps⟩ | ⟨q, B, X', hpost, hsteps⟩
  · exact Or.inl ⟨v, vm₁, B, X₁.warmed, X', hpost, fun target h => hstep₁ _ fun acts => by rw [doInvoke_state]; exact hsteps.trans h⟩
  · exact Or.inr ⟨q, vm₁, B, X₁.warmed, X', hpost, hstep₁ _ fun acts => by rw [doInvoke_state]; exact hsteps⟩
theorem vx_callVW (X : Stand p l e R s m args below meth c T locs cells slots) (hexec : p.tables.exec = Jvm.exec) {own C : String} {index : Nat} {y : MethodName} {bytes : ByteArray} {maxL : Nat} {ret : Option FieldType} {hh : List (Nat × Nat × Nat × Nat)}
    (hown : s.vm.findClass own = some m.cls) (hlink : (Cond.methodLink own index y).before args s = true) (hinst : (Cond.instanceMethod y).before args s = true) (hsel : (Cond.selects C y y).before args s = true)
    (hcode : (Cond.codeWith y bytes maxL ret hh).before args s = true) (hy : y.cls ≠ "java/lang/invoke/MethodHandle" ∧ y.cls ≠ "java/lang/invoke/VarHandle")
    {W9 : Nat} {Pre : Pt → Array Value → Prop} {Post : Pt → Array Value → Option Value → Pt → Prop} (hK : Back l R p e below s args y 3 W9 Pre Post)
    {b : Addr} {cellB : Cell} (hcell : T.heap[b]? = some cellB) (hobj : cellB.vm.isStatics = false) (hcls : s.vm.findClass C = some cellB.cls)
    {g : JFrame} (hg : g.method = m) (hsize : g.locals.size = c.maxLocals) {argsL rest : List Value} (hlen : ∀ sig, parseMethodDescriptor y.desc = some sig → argsL.length = sig.parameters.length)
    (hstack : g.stack = argsL.reverse ++ .ref b :: rest) (hW : 2 * g.monitorRoom + (rest.map fun v => v.category).sum ≤ W9) (hdg : decode c.code g.pc = .ok (.invokevirtual index, 3))
    (hpre : ∀ vm₁, s.WarmedH vm₁ → Pre ⟨T.setVm vm₁, locs, cells, slots⟩ (Value.ref b :: argsL).toArray) :
    ∃ (v : Option Value) (vm₁ : Vm) (B : Pt), s.WarmedH vm₁ ∧ Stand p l e R s m args below meth c B.U B.locs B.cells B.slots ∧ Post ⟨T.setVm vm₁, locs, cells, slots⟩ (Value.ref b :: argsL).toArray v B ∧
      ∀ target, Steps p.tables e below (B.U.setTop { g with pc := g.pc + 3, stack := v.toList ++ rest }) target → Steps p.tables e below (T.setTop g) target := by
  obtain ⟨mk, methM, hnamed, hmethM, hstM, habM⟩ := Cond.instanceMethod_spec hinst
  obtain ⟨m8, methM', cM, hn8, hmethM', -, -, -, -, -, -, hsigM⟩ := Cond.codeWith_spec hcode
  cases Option.some.inj (hn8.symm.trans hnamed)
  cases hmethM.symm.trans hmethM'
  obtain ⟨c2, r2, m2, q1, q2, q3, q4, kP, hkP, hkPi⟩ := Cond.selects_spec hsel
  cases hcls.symm.trans q1
  cases (State.methodFound?_of_named hnamed hy).symm.trans q2
  cases hnamed.symm.trans q3
  have hselP : selectMethod e.platform s.vm cellB.cls mk = .method mk := by rw [Launch.admits_selectMethod X.admits]; exact q4
  obtain ⟨vm₁, X₁, hstep₁⟩ := X.invokevirtual hexec hown hlink hnamed hmethM hstM hkP hkPi hy (a := b) (cell := cellB) hcell
    (fun z h => by rw [h] at hobj; cases hobj) hselP hmethM habM hkP hkPi (g := g) hg (argsL := argsL) (rest := rest) (hlen _ hsigM) hstack hdg
  obtain ⟨v, B, X', hpost, hsteps⟩ := hK m meth c ⟨T.setVm vm₁, locs, cells, slots⟩ { g with stack := rest } (.invokevirtual index) mk (Value.ref b :: argsL).toArray X₁ hg hsize hdg hW (X₁.named hnamed) (hpre vm₁ X₁.warmed)
  exact ⟨v, vm₁, B, X₁.warmed, X', hpost, fun target h => hstep₁ _ fun acts => by rw [doInvoke_state]; exact hsteps.trans h⟩
abbrev vx_CVW (R : Room) (s : State) (args : Array Value) (own C : String) (index : Nat) (y : MethodName) (bytes : ByteArray) (maxL : Nat) (ret : Option FieldType) (hh : List (Nat × Nat × Nat × Nat)) (ws : List Cond) (rm : Room) (mc ms n : Nat) : Prop :=
  (rm.cells = mc ∧ rm.slots = ms ∧ rm.frames + 1 ≤ R.frames ∧ 8 + (maxL + 11) + rm.locals ≤ R.locals ∧ (∀ w ∈ ws, ∀ (a' : Array Value) (U : State), s.WarmedH U.vm → w.before a' U = true) ∧ Cond.codeWith y bytes maxL ret hh ∈ ws) ∧
  (Cond.codeWith y bytes maxL ret hh).before args s = true ∧ (Cond.initialized y.cls).before args s = true ∧ (y.cls ≠ "java/lang/invoke/MethodHandle" ∧ y.cls ≠ "java/lang/invoke/VarHandle") ∧
  (∀ sig, parseMethodDescriptor y.desc = some sig → n = sig.parameters.length) ∧ (Cond.methodLink own index y).before args s = true ∧ (Cond.instanceMethod y).before args s = true ∧ (Cond.selects C y y).before args s = true
theorem vx_cwVW {own C : String} {index maxL mc ms : Nat} {y : MethodName} {bytes : ByteArray} {ret : Option FieldType} {hh : List (Nat × Nat × Nat × Nat)} {Ts ws ws' : List Cond} {rm : Room} (n : Nat) (ht : ∀ w ∈ Ts, w.before args s = true) (hT : GoodIn Ts (wsV own index C y ws)) (hw : ws = Cond.codeWith y bytes maxL ret hh :: ws') (hrc : rm.cells = mc) (hrs : rm.slots = ms)
    (hd : y.cls = C ∧ y.cls ≠ "java/lang/invoke/MethodHandle" ∧ y.cls ≠ "java/lang/invoke/VarHandle" ∧ (parseMethodDescriptor y.desc).map (fun d => d.parameters.length) = some n) (hR : rm.frames + 1 ≤ R.frames ∧ 8 + (maxL + 11) + rm.locals ≤ R.locals) :
    vx_CVW R s args own C index y bytes maxL ret hh ws rm mc ms n := by
  obtain ⟨hC, hd⟩ := hd
  subst hC
  have ok : ∀ w ∈ wsV own index y.cls y ws, w.before args s = true := fun w h => ht w (hT w h).1
  have hG : GoodIn Ts ws := fun w h => hT w (by unfold wsV; exact List.mem_append_right _ h)
  have hc : Cond.codeWith y bytes maxL ret hh ∈ ws := by rw [hw]; exact List.mem_cons_self
  refine ⟨⟨hrc, hrs, hR.1, hR.2, pay_in ht hG, hc⟩, ht _ (hG _ hc).1, ok _ (by simp [wsV]), ⟨hd.1, hd.2.1⟩, fun sig h => ?_, ok _ (by simp [wsV]), ok _ (by simp [wsV]), ok _ (by simp [wsV])⟩
  have h2 := hd.2.2
  rw [h] at h2
  exact (Option.some.inj h2).symm
theorem vx_runVW {y : MethodName} {bytes cc : ByteArray} {maxL nL mc ms n index : Nat} {ret : Option FieldType} {hh : List (Nat × Nat × Nat × Nat)} {ws : List Cond} {rm : Room} {Pc : Array Value → State → Prop} {Qc : Array Value → State → Outcome → State → Prop} {free : Addr → Prop} {Ts : List Cond} {own C : String} {b : Addr} {As rest : List Value} {g : JFrame}
    (S : CallFix p m c cc nL s args Ts own) (hM : Met l y ws rm Pc Qc mc ms free) (cw : vx_CVW R s args own C index y bytes maxL ret hh ws rm mc ms n) (hp : PreV s H C b Pc As)
    (hg : g.method = m) (hn : As.length = n) (hsize : g.locals.size = nL) (hstack : g.stack = As.reverse ++ .ref b :: rest) (hW : 2 * g.monitorRoom + (rest.map fun v => v.category).sum ≤ 8) (hdg : decode cc g.pc = .ok (.invokevirtual index, 3)) (hf : cells + mc ≤ R.cells ∧ slots + ms ≤ R.slots) :
    va_Run p l e R s m args below meth c H locs cells slots mc ms g rest (Qc (Value.ref b :: As).toArray) free := by
  obtain ⟨⟨hrc, hrs, hfr, hlo, hws, hcw⟩, hcode, hini, hy, hlen, hl, hin, hse⟩ := cw
  have hK : Back l R p e below s args y 3 8 (PreOf R mc ms Pc) (PostOf Qc mc ms free) := va_backW (hh := hh) (bytes := bytes) (maxL := maxL) (ret := ret) hM hp.1 hrc hrs hfr hlo hws hcw (fun a' U hW => word_at hW (Or.inl (by first | rfl | simp [Cond.onTables, Cond.keeps, Cond.steady])) hini)
  obtain ⟨hx, hb, hml, ho, -⟩ := S
  obtain ⟨-, ⟨cellB, hcB, hoB, hclB⟩, hPc⟩ := hp
  intro T hT X
  obtain ⟨v, vm₁, ⟨U', l2, c2, s2⟩, hW₁, X', ⟨g', mk, t, L, e1, e2, hq, h1, hL, h2, h3⟩, st⟩ := vx_callVW X hx (C := C) (hh := hh) (bytes := bytes) (maxL := maxL) (ret := ret) ho hl hin hse hcode hy hK (by rw [hT]; exact hcB) hoB hclB hg (hsize.trans hml.symm) (argsL := As) (rest := rest) (fun sig h => hn.trans (hlen sig h)) hstack hW (by rw [hb]; exact hdg)
    (fun vm₁ hW₁ => ⟨hf.1, hf.2, hPc (T.setVm vm₁) hT hW₁⟩)
  dsimp only [Pt.U, Pt.locs, Pt.cells, Pt.slots] at X' e1 e2 h1 h2 h3 st
  subst h1; subst h2; subst h3
  exact ⟨v, (T.setVm vm₁).calling g' mk (Value.ref b :: As).toArray, t, U', L, hT, X', hL, e1, e2, hq, st⟩
section
variable {y : MethodName} {bytes cc : ByteArray} {maxL nL mc ms n index : Nat} {ret : Option FieldType} {ws : List Cond} {rm : Room} {Pc : Array Value → State → Prop} {Qc : Array Value → State → Outcome → State → Prop} {XC : String → State → State → Prop} {free : Addr → Prop} {Ts : List Cond} {own C : String} {b : Addr} {As rest : List Value} {g : JFrame}
theorem vx_runVX {hh : List (Nat × Nat × Nat × Nat)} (S : CallFix p m c cc nL s args Ts own) (hM : vx_Met l y ws rm Pc Qc XC mc ms free) (cw : vx_CVW R s args own C index y bytes maxL ret hh ws rm mc ms n) (hp : PreV s H C b Pc As)
    (hg : g.method = m) (hn : As.length = n) (hsize : g.locals.size = nL) (hstack : g.stack = As.reverse ++ .ref b :: rest) (hW : 2 * g.monitorRoom + (rest.map fun v => v.category).sum ≤ 8) (hdg : decode cc g.pc = .ok (.invokevirtual index, 3)) (hf : cells + mc ≤ R.cells ∧ slots + ms ≤ R.slots) :
    vx_Run p l e R s m args below meth c H locs cells slots mc ms g rest (Qc (Value.ref b :: As).toArray) XC free := by
  obtain ⟨⟨hrc, hrs, hfr, hlo, hws, hcw⟩, hcode, hini, hy, hlen, hl, hin, hse⟩ := cw
  have hK : vx_Back l R p e below s args y 3 8 (PreOf R mc ms Pc) (PostOf Qc mc ms free) (vx_Post XC mc ms free) := vx_backW (hh := hh) (bytes := bytes) (maxL := maxL) (ret := ret) hM hp.1 hrc hrs hfr hlo hws hcw (fun a' U hW => word_at hW (Or.inl (by first | rfl | simp [Cond.onTables, Cond.keeps, Cond.steady])) hini)
  obtain ⟨hx, hb, hml, ho, -⟩ := S
  obtain ⟨-, ⟨cellB, hcB, hoB, hclB⟩, hPc⟩ := hp
  intro T hT X
  rcases vx_callVX X hx (C := C) (hh := hh) (bytes := bytes) (maxL := maxL) (ret := ret) ho hl hin hse hcode hy hK (by rw [hT]; exact hcB) hoB hclB hg (hsize.trans hml.symm) (argsL := As) (rest := rest) (fun sig h => hn.trans (hlen sig h)) hstack hW (by rw [hb]; exact hdg)
    (fun vm₁ hW₁ => ⟨hf.1, hf.2, hPc (T.setVm vm₁) hT hW₁⟩) with ⟨v, vm₁, ⟨U', l2, c2, s2⟩, hW₁, X', ⟨g', mk, t, L, e1, e2, hq, h1, hL, h2, h3⟩, st⟩ | ⟨q, vm₁, ⟨U', l2, c2, s2⟩, hW₁, X', ⟨g', mk, t, L, E, ce, e1, e2, hq, hce, hcv, hcl, h1, hL, h2, h3⟩, st⟩
  · dsimp only [Pt.U, Pt.locs, Pt.cells, Pt.slots] at X' e1 e2 h1 h2 h3 st
    subst h1; subst h2; subst h3
    exact Or.inl ⟨v, (T.setVm vm₁).calling g' mk (Value.ref b :: As).toArray, t, U', L, hT, X', hL, e1, e2, hq, st⟩
  · dsimp only [Pt.U, Pt.locs, Pt.cells, Pt.slots] at X' e1 e2 h1 h2 h3 st hcl
    subst h1; subst h2; subst h3
    exact Or.inr ⟨q, (T.setVm vm₁).calling g' mk (Value.ref b :: As).toArray, t, U', L, E, ce, hT, X', hL, e1, e2, hq, hce, hcv, vx_cls hW₁ hcl, st⟩
theorem vx_runSX {hh : List (Nat × Nat × Nat × Nat)} (S : CallFix p m c cc nL s args Ts own) (hM : vx_Met l y ws rm Pc Qc XC mc ms free) (cw : vx_CSW R s args own index y bytes maxL ret hh ws rm mc ms n) (hp : PreS s H Pc As)
    (hg : g.method = m) (hn : As.length = n) (hsize : g.locals.size = nL) (hstack : g.stack = As.reverse ++ rest) (hW : 2 * g.monitorRoom + (rest.map fun v => v.category).sum ≤ 8) (hdg : decode cc g.pc = .ok (.invokestatic index, 3)) (hf : cells + mc ≤ R.cells ∧ slots + ms ≤ R.slots) :
    vx_Run p l e R s m args below meth c H locs cells slots mc ms g rest (Qc As.toArray) XC free := by
  obtain ⟨⟨hrc, hrs, hfr, hlo, hws, hcw⟩, hcode, hini, hy, hlen, hl, hstt⟩ := cw
  have hK : vx_Back l R p e below s args y 3 8 (PreOf R mc ms Pc) (PostOf Qc mc ms free) (vx_Post XC mc ms free) := vx_backW (hh := hh) (bytes := bytes) (maxL := maxL) (ret := ret) hM hp.1 hrc hrs hfr hlo hws hcw (fun a' U hW => word_at hW (Or.inl (by first | rfl | simp [Cond.onTables, Cond.keeps, Cond.steady])) hini)
  obtain ⟨hx, hb, hml, ho, -⟩ := S
  intro T hT X
  rcases vx_callSX X hx (hh := hh) (bytes := bytes) (maxL := maxL) (ret := ret) ho hl hstt hini hcode hy hK hg (hsize.trans hml.symm) (argsL := As) (rest := rest) (fun sig h => hn.trans (hlen sig h)) hstack hW (by rw [hb]; exact hdg)
    (fun vm₁ hW₁ => ⟨hf.1, hf.2, hp.2 (T.setVm vm₁) hT hW₁⟩) with ⟨v, vm₁, ⟨U', l2, c2, s2⟩, hW₁, X', ⟨g', mk, t, L, e1, e2, hq, h1, hL, h2, h3⟩, st⟩ | ⟨q, vm₁, ⟨U', l2, c2, s2⟩, hW₁, X', ⟨g', mk, t, L, E, ce, e1, e2, hq, hce, hcv, hcl, h1, hL, h2, h3⟩, st⟩
  · dsimp only [Pt.U, Pt.locs, Pt.cells, Pt.slots] at X' e1 e2 h1 h2 h3 st
    subst h1; subst h2; subst h3
    exact Or.inl ⟨v, (T.setVm vm₁).calling g' mk As.toArray, t, U', L, hT, X', hL, e1, e2, hq, st⟩
  · dsimp only [Pt.U, Pt.locs, Pt.cells, Pt.slots] at X' e1 e2 h1 h2 h3 st hcl
    subst h1; subst h2; subst h3
    exact Or.inr ⟨q, (T.setVm vm₁).calling g' mk As.toArray, t, U', L, E, ce, hT, X', hL, e1, e2, hq, hce, hcv, vx_cls hW₁ hcl, st⟩
end
end VXH
theorem vx_ofWH {l : Launch} {y : MethodName} {ws ws' : List Cond} {rm : Room} {Pc : Array Value → State → Prop} {Qc : Array Value → State → Outcome → State → Prop} {XC : String → State → State → Prop} {mc ms : Nat} {free : Addr → Prop} {cc : ByteArray} {maxL : Nat} {ret : Option FieldType} {hh : List (Nat × Nat × Nat × Nat)}
    (hy : plainName y.cls = true) (hw : ws = Cond.codeWith y cc maxL ret hh :: ws')
    (body : ∀ p e s m args below meth c s₁, BodyLoose p l y (headSpec ws rm) cc maxL ret e s m args below meth c s₁ → c.maxLocals = maxL → Pc args s →
      W p l e (headSpec ws rm).room s m args below meth c s.heap [] 0 0 (vx_MQ below Qc XC args s mc ms free) (entryFrame m args maxL)) : vx_Met l y ws rm Pc Qc XC mc ms free := by
  refine MetFree.of_bodyS (code := cc) (maxLocals := maxL) (ret := ret) hy ?_ ?_
  · intro args s m h hn
    obtain ⟨m9, meth, c, hn9, h1, h2, h3, h4, -, h5, h6, -⟩ := Cond.codeWith_spec (atoms_spec (ws := ws) h _ (by rw [hw]; exact List.mem_cons_self))
    cases hn.symm.trans hn9
    exact ⟨meth, c, h1, h2, h3, h4, h5, h6⟩
  · intro p e s m args below meth c s₁ B hml hP _
    have hh0 : s₁.heap = s.heap := by rw [B.state]; rfl
    obtain ⟨t, a1, o, b1, b2, b3⟩ := body p e s m args below meth c s₁ B hml hP s₁ hh0 (Stand.of_body B)
    exact ⟨t, o, a1, b1, b2, b3⟩
/-! ===== END ===== -/

/-! ===== BEGIN printed: names, fields, word lists, decode rows ===== -/
/-! ===== BEGIN a private method of a nest mate that may throw (follows va_callVN, va_callSN, va_runVN, va_runSN) ===== -/
section
variable {p : Program} {l : Launch} {e : Env} {R : Room} {s : State} {m : MethodId} {args : Array Value} {below : List Frame} {meth : Method} {c : Code} {H : Heap} {locs : List Loc} {cells slots : Nat}
variable {T : State}
theorem vx_callVN (X : Stand p l e R s m args below meth c T locs cells slots) (hexec : p.tables.exec = Jvm.exec) {own C : String} {index : Nat} {host : String} {y : MethodName} {bytes : ByteArray} {maxL : Nat} {ret : Option FieldType}
    (hown : s.vm.findClass own = some m.cls) (hlink : (Cond.methodLinkNest own index y host).before args s = true) (hinst : (Cond.instanceMethod y).before args s = true) (hsel : (Cond.selects C y y).before args s = true)
    (hcode : (Cond.code y bytes maxL ret).before args s = true) (hy : y.cls ≠ "java/lang/invoke/MethodHandle" ∧ y.cls ≠ "java/lang/invoke/VarHandle")
    {W : Nat} {Pre : Pt → Array Value → Prop} {Post : Pt → Array Value → Option Value → Pt → Prop} {PostX : Pt → Array Value → Addr → Pt → Prop} (hK : vx_Back l R p e below s args y 3 W Pre Post PostX)
    {b : Addr} {cellB : Cell} (hcell : T.heap[b]? = some cellB) (hobj : cellB.vm.isStatics = false) (hcls : s.vm.findClass C = some cellB.cls)
    {g : JFrame} (hg : g.method = m) (hsize : g.locals.size = c.maxLocals) {argsL rest : List Value} (hlen : ∀ sig, parseMethodDescriptor y.desc = some sig → argsL.length = sig.parameters.length)
    (hstack : g.stack = argsL.reverse ++ .ref b :: rest) (hW : 2 * g.monitorRoom + (rest.map fun v => v.category).sum ≤ W) (hdg : decode c.code g.pc = .ok (.invokevirtual index, 3))
    (hpre : ∀ vm₁, s.WarmedH vm₁ → Pre ⟨T.setVm vm₁, locs, cells, slots⟩ (Value.ref b :: argsL).toArray) :
    (∃ (v : Option Value) (vm₁ : Vm) (B : Pt), s.WarmedH vm₁ ∧ Stand p l e R s m args below meth c B.U B.locs B.cells B.slots ∧ Post ⟨T.setVm vm₁, locs, cells, slots⟩ (Value.ref b :: argsL).toArray v B ∧
      ∀ target, Steps p.tables e below (B.U.setTop { g with pc := g.pc + 3, stack := v.toList ++ rest }) target → Steps p.tables e below (T.setTop g) target) ∨
    (∃ (q : Addr) (vm₁ : Vm) (B : Pt), s.WarmedH vm₁ ∧ Stand p l e R s m args below meth c B.U B.locs B.cells B.slots ∧ PostX ⟨T.setVm vm₁, locs, cells, slots⟩ (Value.ref b :: argsL).toArray q B ∧
      Steps p.tables e below (T.setTop g) ((B.U.setTop { g with stack := rest }).pushFrame (.throwing q))) := by
  obtain ⟨mk, methM, hnamed, hmethM, hstM, habM⟩ := Cond.instanceMethod_spec hinst
  obtain ⟨methM', cM, hmethM', -, -, -, -, -, -, hsigM⟩ := Cond.code_spec hnamed hcode
  cases hmethM.symm.trans hmethM'
  obtain ⟨c2, r2, m2, q1, q2, q3, q4, kP, hkP, hkPi⟩ := Cond.selects_spec hsel
  cases hcls.symm.trans q1
  cases (State.methodFound?_of_named hnamed hy).symm.trans q2
  cases hnamed.symm.trans q3
  have hselP : selectMethod e.platform s.vm cellB.cls mk = .method mk := by rw [Launch.admits_selectMethod X.admits]; exact q4
  obtain ⟨vm₁, X₁, hstep₁⟩ := X.invokevirtualNest hexec hown hlink hnamed hmethM hstM hkP hkPi hy (a := b) (cell := cellB) hcell
    (fun z h => by rw [h] at hobj; cases hobj) hselP hmethM habM hkP hkPi (g := g) hg (argsL := argsL) (rest := rest) (hlen _ hsigM) hstack hdg
  rcases hK m meth c ⟨T.setVm vm₁, locs, cells, slots⟩ { g with stack := rest } (.invokevirtual index) mk (Value.ref b :: argsL).toArray X₁ hg hsize hdg hW (X₁.named hnamed) (hpre vm₁ X₁.warmed) with ⟨v, B, X', hpost, hsteps⟩ | ⟨q, B, X', hpost, hsteps⟩
  · exact Or.inl ⟨v, vm₁, B, X₁.warmed, X', hpost, fun target h => hstep₁ _ fun acts => by rw [doInvoke_state]; exact hsteps.trans h⟩
  · exact Or.inr ⟨q, vm₁, B, X₁.warmed, X', hpost, hstep₁ _ fun acts => by rw [doInvoke_state]; exact hsteps⟩
theorem vx_callSN (X : Stand p l e R s m args below meth c T locs cells slots) (hexec : p.tables.exec = Jvm.exec) {own : String} {index : Nat} {host : String} {y : MethodName} {bytes : ByteArray} {maxL : Nat} {ret : Option FieldType}
    (hown : s.vm.findClass own = some m.cls) (hlink : (Cond.methodLinkNest own index y host).before args s = true) (hstat : (Cond.static y).before args s = true) (hinit : (Cond.initialized y.cls).before args s = true)
    (hcode : (Cond.code y bytes maxL ret).before args s = true) (hy : y.cls ≠ "java/lang/invoke/MethodHandle" ∧ y.cls ≠ "java/lang/invoke/VarHandle")
    {W : Nat} {Pre : Pt → Array Value → Prop} {Post : Pt → Array Value → Option Value → Pt → Prop} {PostX : Pt → Array Value → Addr → Pt → Prop} (hK : vx_Back l R p e below s args y 3 W Pre Post PostX)
    {g : JFrame} (hg : g.method = m) (hsize : g.locals.size = c.maxLocals) {argsL rest : List Value} (hlen : ∀ sig, parseMethodDescriptor y.desc = some sig → argsL.length = sig.parameters.length)
    (hstack : g.stack = argsL.reverse ++ rest) (hW : 2 * g.monitorRoom + (rest.map fun v => v.category).sum ≤ W) (hdg : decode c.code g.pc = .ok (.invokestatic index, 3))
    (hpre : ∀ vm₁, s.WarmedH vm₁ → Pre ⟨T.setVm vm₁, locs, cells, slots⟩ argsL.toArray) :
    (∃ (v : Option Value) (vm₁ : Vm) (B : Pt), s.WarmedH vm₁ ∧ Stand p l e R s m args below meth c B.U B.locs B.cells B.slots ∧ Post ⟨T.setVm vm₁, locs, cells, slots⟩ argsL.toArray v B ∧
      ∀ target, Steps p.tables e below (B.U.setTop { g with pc := g.pc + 3, stack := v.toList ++ rest }) target → Steps p.tables e below (T.setTop g) target) ∨
    (∃ (q : Addr) (vm₁ : Vm) (B : Pt), s.WarmedH vm₁ ∧ Stand p l e R s m args below meth c B.U B.locs B.cells B.slots ∧ PostX ⟨T.setVm vm₁, locs, cells, slots⟩ argsL.toArray q B ∧
      Steps p.tables e below (T.setTop g) ((B.U.setTop { g with stack := rest }).pushFrame (.throwing q))) := by
  obtain ⟨mk, hnamed⟩ := Cond.code_named hcode
  obtain ⟨methM, cM, hmethM, -, -, -, -, -, -, hsigM⟩ := Cond.code_spec hnamed hcode
  have hstatic : methM.isStatic = true := Cond.static_spec hnamed hmethM hstat
  obtain ⟨kP, hkP, -⟩ := className_of_methodNamed hnamed
  have hinitP : kP.init = .initialized := Cond.initialized_spec (findClass_of_methodNamed hnamed) hkP hinit
  obtain ⟨vm₁, X₁, hstep₁⟩ := X.invokestaticNest hexec hown hlink hnamed hmethM hstatic hkP hinitP hy (g := g) hg (argsL := argsL) (rest := rest) (hlen _ hsigM) hstack hdg
  rcases hK m meth c ⟨T.setVm vm₁, locs, cells, slots⟩ { g with stack := rest } (.invokestatic index) mk argsL.toArray X₁ hg hsize hdg hW (X₁.named hnamed) (hpre vm₁ X₁.warmed) with ⟨v, B, X', hpost, hsteps⟩ | ⟨q, B, X', hpost, hsteps⟩
  · exact Or.inl ⟨v, vm₁, B, X₁.warmed, X', hpost, fun target h => hstep₁ _ fun acts => by rw [doInvoke_state]; exact hsteps.trans h⟩
  · exact Or.inr ⟨q, vm₁, B, X₁.warmed, X', hpost, hstep₁ _ fun acts => by rw [doInvoke_state]; exact hsteps⟩
theorem vx_runVN {y : MethodName} {bytes cc : ByteArray} {maxL nL mc ms n index : Nat} {ret : Option FieldType} {ws : List Cond} {rm : Room} {Pc : Array Value → State → Prop} {Qc : Array Value → State → Outcome → State → Prop} {XC : String → State → State → Prop} {free : Addr → Prop} {Ts : List Cond} {own C host : String} {b : Addr} {As rest : List Value} {g : JFrame}
    (S : CallFix p m c cc nL s args Ts own) (hM : vx_Met l y ws rm Pc Qc XC mc ms free) (cw : va_CN R s args own index y host bytes maxL ret ws rm mc ms n ∧ (Cond.instanceMethod y).before args s = true ∧ (Cond.selects C y y).before args s = true) (hp : PreV s H C b Pc As)
    (hg : g.method = m) (hn : As.length = n) (hsize : g.locals.size = nL) (hstack : g.stack = As.reverse ++ .ref b :: rest) (hW : 2 * g.monitorRoom + (rest.map fun v => v.category).sum ≤ 8) (hdg : decode cc g.pc = .ok (.invokevirtual index, 3)) (hf : cells + mc ≤ R.cells ∧ slots + ms ≤ R.slots) :
    vx_Run p l e R s m args below meth c H locs cells slots mc ms g rest (Qc (Value.ref b :: As).toArray) XC free := by
  obtain ⟨⟨⟨hrc, hrs, hfr, hlo, hws, hcw⟩, hcode, hini, hy, hlen, hl⟩, hx1, hx2⟩ := cw
  have hK : vx_Back l R p e below s args y 3 8 (PreOf R mc ms Pc) (PostOf Qc mc ms free) (vx_Post XC mc ms free) := vx_back (bytes := bytes) (maxL := maxL) (ret := ret) hM hp.1 hrc hrs hfr hlo hws hcw (fun a' U hW => word_at hW (Or.inl (by first | rfl | simp [Cond.onTables, Cond.keeps, Cond.steady])) hini)
  obtain ⟨hx, hb, hml, ho, -⟩ := S
  obtain ⟨-, ⟨cellB, hcB, hoB, hclB⟩, hPc⟩ := hp
  intro T hT X
  rcases vx_callVN X hx (C := C) (bytes := bytes) (maxL := maxL) (ret := ret) ho hl hx1 hx2 hcode hy hK (by rw [hT]; exact hcB) hoB hclB hg (hsize.trans hml.symm) (argsL := As) (rest := rest) (fun sig h => hn.trans (hlen sig h)) hstack hW (by rw [hb]; exact hdg)
    (fun vm₁ hW₁ => ⟨hf.1, hf.2, hPc (T.setVm vm₁) hT hW₁⟩) with ⟨v, vm₁, ⟨U', l2, c2, s2⟩, hW₁, X', ⟨g', mk, t, L, e1, e2, hq, h1, hL, h2, h3⟩, st⟩ | ⟨q, vm₁, ⟨U', l2, c2, s2⟩, hW₁, X', ⟨g', mk, t, L, E, ce, e1, e2, hq, hce, hcv, hcl, h1, hL, h2, h3⟩, st⟩
  · dsimp only [Pt.U, Pt.locs, Pt.cells, Pt.slots] at X' e1 e2 h1 h2 h3 st
    subst h1; subst h2; subst h3
    exact Or.inl ⟨v, (T.setVm vm₁).calling g' mk (Value.ref b :: As).toArray, t, U', L, hT, X', hL, e1, e2, hq, st⟩
  · dsimp only [Pt.U, Pt.locs, Pt.cells, Pt.slots] at X' e1 e2 h1 h2 h3 st hcl
    subst h1; subst h2; subst h3
    exact Or.inr ⟨q, (T.setVm vm₁).calling g' mk (Value.ref b :: As).toArray, t, U', L, E, ce, hT, X', hL, e1, e2, hq, hce, hcv, vx_cls hW₁ hcl, st⟩
theorem vx_runSN {y : MethodName} {bytes cc : ByteArray} {maxL nL mc ms n index : Nat} {ret : Option FieldType} {ws : List Cond} {rm : Room} {Pc : Array Value → State → Prop} {Qc : Array Value → State → Outcome → State → Prop} {XC : String → State → State → Prop} {free : Addr → Prop} {Ts : List Cond} {own host : String} {As rest : List Value} {g : JFrame}
    (S : CallFix p m c cc nL s args Ts own) (hM : vx_Met l y ws rm Pc Qc XC mc ms free) (cw : va_CN R s args own index y host bytes maxL ret ws rm mc ms n ∧ (Cond.static y).before args s = true ∧ True) (hp : PreS s H Pc As)
    (hg : g.method = m) (hn : As.length = n) (hsize : g.locals.size = nL) (hstack : g.stack = As.reverse ++ rest) (hW : 2 * g.monitorRoom + (rest.map fun v => v.category).sum ≤ 8) (hdg : decode cc g.pc = .ok (.invokestatic index, 3)) (hf : cells + mc ≤ R.cells ∧ slots + ms ≤ R.slots) :
    vx_Run p l e R s m args below meth c H locs cells slots mc ms g rest (Qc As.toArray) XC free := by
  obtain ⟨⟨⟨hrc, hrs, hfr, hlo, hws, hcw⟩, hcode, hini, hy, hlen, hl⟩, hx1, hx2⟩ := cw
  have hK : vx_Back l R p e below s args y 3 8 (PreOf R mc ms Pc) (PostOf Qc mc ms free) (vx_Post XC mc ms free) := vx_back (bytes := bytes) (maxL := maxL) (ret := ret) hM hp.1 hrc hrs hfr hlo hws hcw (fun a' U hW => word_at hW (Or.inl (by first | rfl | simp [Cond.onTables, Cond.keeps, Cond.steady])) hini)
  obtain ⟨hx, hb, hml, ho, -⟩ := S
  have hPc := hp.2
  intro T hT X
  rcases vx_callSN X hx (bytes := bytes) (maxL := maxL) (ret := ret) ho hl hx1 hini hcode hy hK hg (hsize.trans hml.symm) (argsL := As) (rest := rest) (fun sig h => hn.trans (hlen sig h)) hstack hW (by rw [hb]; exact hdg)
    (fun vm₁ hW₁ => ⟨hf.1, hf.2, hPc (T.setVm vm₁) hT hW₁⟩) with ⟨v, vm₁, ⟨U', l2, c2, s2⟩, hW₁, X', ⟨g', mk, t, L, e1, e2, hq, h1, hL, h2, h3⟩, st⟩ | ⟨q, vm₁, ⟨U', l2, c2, s2⟩, hW₁, X', ⟨g', mk, t, L, E, ce, e1, e2, hq, hce, hcv, hcl, h1, hL, h2, h3⟩, st⟩
  · dsimp only [Pt.U, Pt.locs, Pt.cells, Pt.slots] at X' e1 e2 h1 h2 h3 st
    subst h1; subst h2; subst h3
    exact Or.inl ⟨v, (T.setVm vm₁).calling g' mk As.toArray, t, U', L, hT, X', hL, e1, e2, hq, st⟩
  · dsimp only [Pt.U, Pt.locs, Pt.cells, Pt.slots] at X' e1 e2 h1 h2 h3 st hcl
    subst h1; subst h2; subst h3
    exact Or.inr ⟨q, (T.setVm vm₁).calling g' mk As.toArray, t, U', L, E, ce, hT, X', hL, e1, e2, hq, hce, hcv, vx_cls hW₁ hcl, st⟩
end
/-! ===== END ===== -/
end
section
def RX0 : String := "Zfsmill$Cells"
def TX0 : u_T := fun k => match k with
  | 0 => ("Zfsmill$Cells", "used", "[Z", true)
  | 1 => ("Zfsmill$Cells", "spoilt", "[Z", true)
  | 2 => ("Zfsmill$Cells", "away", "[Z", true)
  | _ => ("Zfsmill$Cells", "outage", "[I", true)
def tyX0 : Nat → FieldType := fun k => match k with
  | 0 => .array .boolean
  | 1 => .array .boolean
  | 2 => .array .boolean
  | _ => .array .int
abbrev wsX00 : List Cond := u_ws RX0 TX0 4
theorem nmX0 : ∀ a, a < 4 → ∀ b, b < 4 → a ≠ b → (TX0 a).2.1 ≠ (TX0 b).2.1 := by decide +kernel
theorem tyX0_ok : ∀ k, k < 4 → parseFieldDescriptor (TX0 k).2.2.1 = some (tyX0 k) := by decide +kernel
abbrev cX0_init : ByteArray := prog_2_method_1_code
def yX0_init : MethodName := ⟨RX0, "<init>", "()V"⟩
abbrev cX0_hasOnline : ByteArray := prog_2_method_2_code
def yX0_hasOnline : MethodName := ⟨RX0, "hasOnline", "(II)Z"⟩
abbrev cX0_outageOf : ByteArray := prog_2_method_3_code
def yX0_outageOf : MethodName := ⟨RX0, "outageOf", "(II)I"⟩
abbrev cX0_takeOffline : ByteArray := prog_2_method_4_code
def yX0_takeOffline : MethodName := ⟨RX0, "takeOffline", "(III)V"⟩
abbrev cX0_bringOnline : ByteArray := prog_2_method_5_code
def yX0_bringOnline : MethodName := ⟨RX0, "bringOnline", "(II)V"⟩
abbrev cX0_isUsed : ByteArray := prog_2_method_6_code
def yX0_isUsed : MethodName := ⟨RX0, "isUsed", "(I)Z"⟩
abbrev cX0_use : ByteArray := prog_2_method_7_code
def yX0_use : MethodName := ⟨RX0, "use", "(I)V"⟩
abbrev cX0_freeAll : ByteArray := prog_2_method_8_code
def yX0_freeAll : MethodName := ⟨RX0, "freeAll", "()V"⟩
abbrev cX0_countFree : ByteArray := prog_2_method_9_code
def yX0_countFree : MethodName := ⟨RX0, "countFree", "(I)I"⟩
abbrev cX0_hasSpoilt : ByteArray := prog_2_method_10_code
def yX0_hasSpoilt : MethodName := ⟨RX0, "hasSpoilt", "(II)Z"⟩
abbrev cX0_isGood : ByteArray := prog_2_method_11_code
def yX0_isGood : MethodName := ⟨RX0, "isGood", "(II)Z"⟩
abbrev cX0_mark : ByteArray := prog_2_method_12_code
def yX0_mark : MethodName := ⟨RX0, "mark", "(IIZ)V"⟩
abbrev cX0_heal : ByteArray := prog_2_method_13_code
def yX0_heal : MethodName := ⟨RX0, "heal", "(II)I"⟩
abbrev cX0_fill : ByteArray := prog_2_method_14_code
def yX0_fill : MethodName := ⟨RX0, "fill", "(I)V"⟩
def RX1 : String := "Zfsmill$Choice"
def TX1 : u_T := fun k => match k with
  | 0 => ("Zfsmill$Choice", "room", "[I", true)
  | 1 => ("Zfsmill$Choice", "nextCell", "[I", true)
  | 2 => ("Zfsmill$Choice", "first", "[I", true)
  | _ => ("Zfsmill$Choice", "second", "[I", true)
def tyX1 : Nat → FieldType := fun k => match k with
  | 0 => .array .int
  | 1 => .array .int
  | 2 => .array .int
  | _ => .array .int
abbrev wsX10 : List Cond := u_ws RX1 TX1 4
theorem nmX1 : ∀ a, a < 4 → ∀ b, b < 4 → a ≠ b → (TX1 a).2.1 ≠ (TX1 b).2.1 := by decide +kernel
theorem tyX1_ok : ∀ k, k < 4 → parseFieldDescriptor (TX1 k).2.2.1 = some (tyX1 k) := by decide +kernel
abbrev cX1_init : ByteArray := prog_3_method_1_code
def yX1_init : MethodName := ⟨RX1, "<init>", "()V"⟩
abbrev cX1_begin : ByteArray := prog_3_method_2_code
def yX1_begin : MethodName := ⟨RX1, "begin", "(LZfsmill$Cells;)V"⟩
abbrev cX1_firstFor : ByteArray := prog_3_method_3_code
def yX1_firstFor : MethodName := ⟨RX1, "firstFor", "(I)I"⟩
abbrev cX1_secondFor : ByteArray := prog_3_method_4_code
def yX1_secondFor : MethodName := ⟨RX1, "secondFor", "(I)I"⟩
abbrev cX1_choose : ByteArray := prog_3_method_5_code
def yX1_choose : MethodName := ⟨RX1, "choose", "(LZfsmill$Cells;II)Z"⟩
abbrev cX1_takeBeside : ByteArray := prog_3_method_6_code
def yX1_takeBeside : MethodName := ⟨RX1, "takeBeside", "(LZfsmill$Cells;I)I"⟩
abbrev cX1_roomiestBeside : ByteArray := prog_3_method_7_code
def yX1_roomiestBeside : MethodName := ⟨RX1, "roomiestBeside", "(I)I"⟩
def RX2 : String := "Zfsmill$OpenGroup"
def TX2 : u_T := fun k => match k with
  | 0 => ("Zfsmill$OpenGroup", "change", "[I", true)
  | _ => ("Zfsmill$OpenGroup", "number", "I", false)
def tyX2 : Nat → FieldType := fun k => match k with
  | 0 => .array .int
  | _ => .int
abbrev wsX20 : List Cond := u_ws RX2 TX2 2
theorem nmX2 : ∀ a, a < 2 → ∀ b, b < 2 → a ≠ b → (TX2 a).2.1 ≠ (TX2 b).2.1 := by decide +kernel
theorem tyX2_ok : ∀ k, k < 2 → parseFieldDescriptor (TX2 k).2.2.1 = some (tyX2 k) := by decide +kernel
abbrev cX2_init : ByteArray := prog_4_method_1_code
def yX2_init : MethodName := ⟨RX2, "<init>", "()V"⟩
abbrev cX2_holds : ByteArray := prog_4_method_2_code
def yX2_holds : MethodName := ⟨RX2, "holds", "(I)Z"⟩
abbrev cX2_changeOf : ByteArray := prog_4_method_3_code
def yX2_changeOf : MethodName := ⟨RX2, "changeOf", "(I)I"⟩
abbrev cX2_change : ByteArray := prog_4_method_4_code
def yX2_change : MethodName := ⟨RX2, "change", "(II)V"⟩
abbrev cX2_changes : ByteArray := prog_4_method_5_code
def yX2_changes : MethodName := ⟨RX2, "changes", "(I)Z"⟩
abbrev cX2_count : ByteArray := prog_4_method_6_code
def yX2_count : MethodName := ⟨RX2, "count", "()I"⟩
abbrev cX2_dropChanges : ByteArray := prog_4_method_7_code
def yX2_dropChanges : MethodName := ⟨RX2, "dropChanges", "()V"⟩
abbrev cX2_close : ByteArray := prog_4_method_8_code
def yX2_close : MethodName := ⟨RX2, "close", "()V"⟩
def RX3 : String := "Zfsmill$Tree"
def TX3 : u_T := fun k => match k with
  | 0 => ("Zfsmill$Tree", "value", "[I", true)
  | 1 => ("Zfsmill$Tree", "first", "[I", true)
  | 2 => ("Zfsmill$Tree", "second", "[I", true)
  | 3 => ("Zfsmill$Tree", "checksum", "[I", true)
  | _ => ("Zfsmill$Tree", "birth", "[I", true)
def tyX3 : Nat → FieldType := fun k => match k with
  | 0 => .array .int
  | 1 => .array .int
  | 2 => .array .int
  | 3 => .array .int
  | _ => .array .int
abbrev wsX30 : List Cond := u_ws RX3 TX3 5
theorem nmX3 : ∀ a, a < 5 → ∀ b, b < 5 → a ≠ b → (TX3 a).2.1 ≠ (TX3 b).2.1 := by decide +kernel
theorem tyX3_ok : ∀ k, k < 5 → parseFieldDescriptor (TX3 k).2.2.1 = some (tyX3 k) := by decide +kernel
abbrev cX3_init : ByteArray := prog_5_method_1_code
def yX3_init : MethodName := ⟨RX3, "<init>", "()V"⟩
abbrev cX3_valueOf : ByteArray := prog_5_method_2_code
def yX3_valueOf : MethodName := ⟨RX3, "valueOf", "(I)I"⟩
abbrev cX3_keepValue : ByteArray := prog_5_method_3_code
def yX3_keepValue : MethodName := ⟨RX3, "keepValue", "(II)V"⟩
abbrev cX3_isMissing : ByteArray := prog_5_method_4_code
def yX3_isMissing : MethodName := ⟨RX3, "isMissing", "(I)Z"⟩
abbrev cX3_placeOf : ByteArray := prog_5_method_5_code
def yX3_placeOf : MethodName := ⟨RX3, "placeOf", "(II)I"⟩
abbrev cX3_countPlaces : ByteArray := prog_5_method_6_code
def yX3_countPlaces : MethodName := ⟨RX3, "countPlaces", "(I)I"⟩
abbrev cX3_checksumOf : ByteArray := prog_5_method_7_code
def yX3_checksumOf : MethodName := ⟨RX3, "checksumOf", "(I)I"⟩
abbrev cX3_birthOf : ByteArray := prog_5_method_8_code
def yX3_birthOf : MethodName := ⟨RX3, "birthOf", "(I)I"⟩
abbrev cX3_checksumOfNode : ByteArray := prog_5_method_9_code
def yX3_checksumOfNode : MethodName := ⟨RX3, "checksumOfNode", "(II)I"⟩
abbrev cX3_point : ByteArray := prog_5_method_10_code
def yX3_point : MethodName := ⟨RX3, "point", "(III)V"⟩
abbrev cX3_sign : ByteArray := prog_5_method_11_code
def yX3_sign : MethodName := ⟨RX3, "sign", "(III)V"⟩
abbrev cX3_drop : ByteArray := prog_5_method_12_code
def yX3_drop : MethodName := ⟨RX3, "drop", "(I)V"⟩
def RX4 : String := "Zfsmill"
def TX4 : u_T := fun k => match k with
  | 0 => ("Zfsmill", "cells", "LZfsmill$Cells;", true)
  | 1 => ("Zfsmill", "tree", "LZfsmill$Tree;", true)
  | 2 => ("Zfsmill", "open", "LZfsmill$OpenGroup;", true)
  | 3 => ("Zfsmill", "choice", "LZfsmill$Choice;", true)
  | 4 => ("Zfsmill", "copiesOfFile", "[I", true)
  | _ => ("Zfsmill", "healedSoFar", "I", false)
def tyX4 : Nat → FieldType := fun k => match k with
  | 0 => .object "Zfsmill$Cells"
  | 1 => .object "Zfsmill$Tree"
  | 2 => .object "Zfsmill$OpenGroup"
  | 3 => .object "Zfsmill$Choice"
  | 4 => .array .int
  | _ => .int
abbrev wsX40 : List Cond := u_ws RX4 TX4 6
theorem nmX4 : ∀ a, a < 6 → ∀ b, b < 6 → a ≠ b → (TX4 a).2.1 ≠ (TX4 b).2.1 := by decide +kernel
theorem tyX4_ok : ∀ k, k < 6 → parseFieldDescriptor (TX4 k).2.2.1 = some (tyX4 k) := by decide +kernel
abbrev cX4_init : ByteArray := prog_1_method_1_code
def yX4_init : MethodName := ⟨RX4, "<init>", "()V"⟩
abbrev cX4_write : ByteArray := prog_1_method_2_code
def yX4_write : MethodName := ⟨RX4, "write", "(III)I"⟩
abbrev cX4_punch : ByteArray := prog_1_method_3_code
def yX4_punch : MethodName := ⟨RX4, "punch", "(III)I"⟩
abbrev cX4_setCopies : ByteArray := prog_1_method_4_code
def yX4_setCopies : MethodName := ⟨RX4, "setCopies", "(II)I"⟩
abbrev cX4_read : ByteArray := prog_1_method_5_code
def yX4_read : MethodName := ⟨RX4, "read", "(II)I"⟩
abbrev cX4_nextData : ByteArray := prog_1_method_6_code
def yX4_nextData : MethodName := ⟨RX4, "nextData", "(II)I"⟩
abbrev cX4_nextHole : ByteArray := prog_1_method_7_code
def yX4_nextHole : MethodName := ⟨RX4, "nextHole", "(II)I"⟩
abbrev cX4_sync : ByteArray := prog_1_method_8_code
def yX4_sync : MethodName := ⟨RX4, "sync", "()I"⟩
abbrev cX4_abandon : ByteArray := prog_1_method_9_code
def yX4_abandon : MethodName := ⟨RX4, "abandon", "()I"⟩
abbrev cX4_group : ByteArray := prog_1_method_10_code
def yX4_group : MethodName := ⟨RX4, "group", "()I"⟩
abbrev cX4_buffered : ByteArray := prog_1_method_11_code
def yX4_buffered : MethodName := ⟨RX4, "buffered", "()I"⟩
abbrev cX4_offline : ByteArray := prog_1_method_12_code
def yX4_offline : MethodName := ⟨RX4, "offline", "(II)V"⟩
abbrev cX4_online : ByteArray := prog_1_method_13_code
def yX4_online : MethodName := ⟨RX4, "online", "(II)I"⟩
abbrev cX4_spoil : ByteArray := prog_1_method_14_code
def yX4_spoil : MethodName := ⟨RX4, "spoil", "(III)Z"⟩
abbrev cX4_isSpoilt : ByteArray := prog_1_method_15_code
def yX4_isSpoilt : MethodName := ⟨RX4, "isSpoilt", "(III)Z"⟩
abbrev cX4_isFree : ByteArray := prog_1_method_16_code
def yX4_isFree : MethodName := ⟨RX4, "isFree", "(II)Z"⟩
abbrev cX4_free : ByteArray := prog_1_method_17_code
def yX4_free : MethodName := ⟨RX4, "free", "(I)I"⟩
abbrev cX4_scrub : ByteArray := prog_1_method_18_code
def yX4_scrub : MethodName := ⟨RX4, "scrub", "()I"⟩
abbrev cX4_healed : ByteArray := prog_1_method_19_code
def yX4_healed : MethodName := ⟨RX4, "healed", "()I"⟩
abbrev cX4_lost : ByteArray := prog_1_method_20_code
def yX4_lost : MethodName := ⟨RX4, "lost", "()I"⟩
abbrev cX4_places : ByteArray := prog_1_method_21_code
def yX4_places : MethodName := ⟨RX4, "places", "(II)I"⟩
abbrev cX4_place : ByteArray := prog_1_method_22_code
def yX4_place : MethodName := ⟨RX4, "place", "(III)I"⟩
abbrev cX4_nodePlace : ByteArray := prog_1_method_23_code
def yX4_nodePlace : MethodName := ⟨RX4, "nodePlace", "(II)I"⟩
abbrev cX4_rootPlace : ByteArray := prog_1_method_24_code
def yX4_rootPlace : MethodName := ⟨RX4, "rootPlace", "(I)I"⟩
abbrev cX4_birth : ByteArray := prog_1_method_25_code
def yX4_birth : MethodName := ⟨RX4, "birth", "(II)I"⟩
abbrev cX4_checksum : ByteArray := prog_1_method_26_code
def yX4_checksum : MethodName := ⟨RX4, "checksum", "(I)I"⟩
abbrev cX4_rootChecksum : ByteArray := prog_1_method_27_code
def yX4_rootChecksum : MethodName := ⟨RX4, "rootChecksum", "()I"⟩
abbrev cX4_isFile : ByteArray := prog_1_method_28_code
def yX4_isFile : MethodName := ⟨RX4, "isFile", "(I)Z"⟩
abbrev cX4_isBlock : ByteArray := prog_1_method_29_code
def yX4_isBlock : MethodName := ⟨RX4, "isBlock", "(I)Z"⟩
abbrev cX4_isBlockOfFile : ByteArray := prog_1_method_30_code
def yX4_isBlockOfFile : MethodName := ⟨RX4, "isBlockOfFile", "(II)Z"⟩
abbrev cX4_isMirror : ByteArray := prog_1_method_31_code
def yX4_isMirror : MethodName := ⟨RX4, "isMirror", "(I)Z"⟩
abbrev cX4_isSideOfMirror : ByteArray := prog_1_method_32_code
def yX4_isSideOfMirror : MethodName := ⟨RX4, "isSideOfMirror", "(II)Z"⟩
abbrev cX4_isCell : ByteArray := prog_1_method_33_code
def yX4_isCell : MethodName := ⟨RX4, "isCell", "(I)Z"⟩
abbrev cX4_isPlaceNumber : ByteArray := prog_1_method_34_code
def yX4_isPlaceNumber : MethodName := ⟨RX4, "isPlaceNumber", "(I)Z"⟩
abbrev cX4_isCellOnSide : ByteArray := prog_1_method_35_code
def yX4_isCellOnSide : MethodName := ⟨RX4, "isCellOnSide", "(II)Z"⟩
abbrev cX4_isPointer : ByteArray := prog_1_method_36_code
def yX4_isPointer : MethodName := ⟨RX4, "isPointer", "(I)Z"⟩
abbrev cX4_isBlockPointer : ByteArray := prog_1_method_37_code
def yX4_isBlockPointer : MethodName := ⟨RX4, "isBlockPointer", "(I)Z"⟩
abbrev cX4_blockPointer : ByteArray := prog_1_method_38_code
def yX4_blockPointer : MethodName := ⟨RX4, "blockPointer", "(II)I"⟩
abbrev cX4_filePointer : ByteArray := prog_1_method_39_code
def yX4_filePointer : MethodName := ⟨RX4, "filePointer", "(I)I"⟩
abbrev cX4_placeNumber : ByteArray := prog_1_method_40_code
def yX4_placeNumber : MethodName := ⟨RX4, "placeNumber", "(II)I"⟩
abbrev cX4_mirrorOf : ByteArray := prog_1_method_41_code
def yX4_mirrorOf : MethodName := ⟨RX4, "mirrorOf", "(I)I"⟩
abbrev cX4_told : ByteArray := prog_1_method_42_code
def yX4_told : MethodName := ⟨RX4, "told", "(I)I"⟩
abbrev cX4_valueNow : ByteArray := prog_1_method_43_code
def yX4_valueNow : MethodName := ⟨RX4, "valueNow", "(II)I"⟩
abbrev cX4_hasData : ByteArray := prog_1_method_44_code
def yX4_hasData : MethodName := ⟨RX4, "hasData", "(I)Z"⟩
abbrev cX4_hasDataAnywhere : ByteArray := prog_1_method_45_code
def yX4_hasDataAnywhere : MethodName := ⟨RX4, "hasDataAnywhere", "()Z"⟩
abbrev cX4_canFetch : ByteArray := prog_1_method_46_code
def yX4_canFetch : MethodName := ⟨RX4, "canFetch", "(I)Z"⟩
abbrev cX4_isUnreadable : ByteArray := prog_1_method_47_code
def yX4_isUnreadable : MethodName := ⟨RX4, "isUnreadable", "(I)Z"⟩
abbrev cX4_healUpToGoodCell : ByteArray := prog_1_method_48_code
def yX4_healUpToGoodCell : MethodName := ⟨RX4, "healUpToGoodCell", "(I)I"⟩
abbrev cX4_healEveryCell : ByteArray := prog_1_method_49_code
def yX4_healEveryCell : MethodName := ⟨RX4, "healEveryCell", "(I)I"⟩
abbrev cX4_scrubFile : ByteArray := prog_1_method_50_code
def yX4_scrubFile : MethodName := ⟨RX4, "scrubFile", "(I)I"⟩
abbrev cX4_choosePlaces : ByteArray := prog_1_method_51_code
def yX4_choosePlaces : MethodName := ⟨RX4, "choosePlaces", "()Z"⟩
abbrev cX4_chooseForFile : ByteArray := prog_1_method_52_code
def yX4_chooseForFile : MethodName := ⟨RX4, "chooseForFile", "(I)Z"⟩
abbrev cX4_writeChanges : ByteArray := prog_1_method_53_code
def yX4_writeChanges : MethodName := ⟨RX4, "writeChanges", "()I"⟩
abbrev cX4_writeFile : ByteArray := prog_1_method_54_code
def yX4_writeFile : MethodName := ⟨RX4, "writeFile", "(I)I"⟩
abbrev cX4_repoint : ByteArray := prog_1_method_55_code
def yX4_repoint : MethodName := ⟨RX4, "repoint", "(II)I"⟩
abbrev cX4_freeWhatIsNotPointedTo : ByteArray := prog_1_method_56_code
def yX4_freeWhatIsNotPointedTo : MethodName := ⟨RX4, "freeWhatIsNotPointedTo", "()V"⟩
abbrev cX4_resilver : ByteArray := prog_1_method_57_code
def yX4_resilver : MethodName := ⟨RX4, "resilver", "(II)I"⟩
abbrev cX4_resilverFile : ByteArray := prog_1_method_58_code
def yX4_resilverFile : MethodName := ⟨RX4, "resilverFile", "(III)I"⟩
abbrev cX4_copyToSide : ByteArray := prog_1_method_59_code
def yX4_copyToSide : MethodName := ⟨RX4, "copyToSide", "(III)I"⟩
def RX5 : String := "ZfsmillModel"
def TX5 : u_T := fun k => match k with
  | _ => ("", "", "", false)
def tyX5 : Nat → FieldType := fun k => match k with
  | _ => .int
abbrev wsX50 : List Cond := u_ws RX5 TX5 0
theorem nmX5 : ∀ a, a < 0 → ∀ b, b < 0 → a ≠ b → (TX5 a).2.1 ≠ (TX5 b).2.1 := by decide +kernel
theorem tyX5_ok : ∀ k, k < 0 → parseFieldDescriptor (TX5 k).2.2.1 = some (tyX5 k) := by decide +kernel
def RJx145de : String := "java/io/Serializable"
def TJx145de : u_T := fun k => match k with
  | _ => ("", "", "", false)
def tyJx145de : Nat → FieldType := fun k => match k with
  | _ => .int
abbrev wsJx145de0 : List Cond := u_ws RJx145de TJx145de 0
theorem nmJx145de : ∀ a, a < 0 → ∀ b, b < 0 → a ≠ b → (TJx145de a).2.1 ≠ (TJx145de b).2.1 := by decide +kernel
theorem tyJx145de_ok : ∀ k, k < 0 → parseFieldDescriptor (TJx145de k).2.2.1 = some (tyJx145de k) := by decide +kernel
def RJ0 : String := "java/lang/String"
def TJ0 : u_T := fun k => match k with
  | _ => ("", "", "", false)
def tyJ0 : Nat → FieldType := fun k => match k with
  | _ => .int
abbrev wsJ00 : List Cond := u_ws RJ0 TJ0 0
theorem nmJ0 : ∀ a, a < 0 → ∀ b, b < 0 → a ≠ b → (TJ0 a).2.1 ≠ (TJ0 b).2.1 := by decide +kernel
theorem tyJ0_ok : ∀ k, k < 0 → parseFieldDescriptor (TJ0 k).2.2.1 = some (tyJ0 k) := by decide +kernel
def RJ7 : String := "java/util/Arrays"
def TJ7 : u_T := fun k => match k with
  | _ => ("", "", "", false)
def tyJ7 : Nat → FieldType := fun k => match k with
  | _ => .int
abbrev wsJ70 : List Cond := u_ws RJ7 TJ7 0
theorem nmJ7 : ∀ a, a < 0 → ∀ b, b < 0 → a ≠ b → (TJ7 a).2.1 ≠ (TJ7 b).2.1 := by decide +kernel
theorem tyJ7_ok : ∀ k, k < 0 → parseFieldDescriptor (TJ7 k).2.2.1 = some (tyJ7 k) := by decide +kernel
abbrev cJ7_fill_53178 : ByteArray := prog_15_method_103_code
def yJ7_fill_53178 : MethodName := ⟨RJ7, "fill", "([II)V"⟩
def RL : String := "ZfsmillLaw"
abbrev cL_writes : ByteArray := method_2_code
def yL_writes : MethodName := ⟨RL, "writes", "(LZfsmill;III)I"⟩
abbrev cL_punches : ByteArray := method_3_code
def yL_punches : MethodName := ⟨RL, "punches", "(LZfsmill;III)I"⟩
abbrev cL_doubles : ByteArray := method_4_code
def yL_doubles : MethodName := ⟨RL, "doubles", "(LZfsmill;II)I"⟩
abbrev cL_reads : ByteArray := method_5_code
def yL_reads : MethodName := ⟨RL, "reads", "(LZfsmill;II)I"⟩
abbrev cL_data : ByteArray := method_6_code
def yL_data : MethodName := ⟨RL, "data", "(LZfsmill;II)I"⟩
abbrev cL_hole : ByteArray := method_7_code
def yL_hole : MethodName := ⟨RL, "hole", "(LZfsmill;II)I"⟩
abbrev cL_syncs : ByteArray := method_8_code
def yL_syncs : MethodName := ⟨RL, "syncs", "(LZfsmill;)I"⟩
abbrev cL_leaves : ByteArray := method_9_code
def yL_leaves : MethodName := ⟨RL, "leaves", "(LZfsmill;II)I"⟩
abbrev cL_returns : ByteArray := method_10_code
def yL_returns : MethodName := ⟨RL, "returns", "(LZfsmill;II)I"⟩
abbrev cL_spoils : ByteArray := method_11_code
def yL_spoils : MethodName := ⟨RL, "spoils", "(LZfsmill;III)I"⟩
abbrev cL_spoilt : ByteArray := method_12_code
def yL_spoilt : MethodName := ⟨RL, "spoilt", "(LZfsmill;III)I"⟩
abbrev cL_isFree : ByteArray := method_13_code
def yL_isFree : MethodName := ⟨RL, "isFree", "(LZfsmill;II)I"⟩
abbrev cL_free : ByteArray := method_14_code
def yL_free : MethodName := ⟨RL, "free", "(LZfsmill;I)I"⟩
abbrev cL_places : ByteArray := method_15_code
def yL_places : MethodName := ⟨RL, "places", "(LZfsmill;II)I"⟩
abbrev cL_place : ByteArray := method_16_code
def yL_place : MethodName := ⟨RL, "place", "(LZfsmill;III)I"⟩
abbrev cL_nodePlace : ByteArray := method_17_code
def yL_nodePlace : MethodName := ⟨RL, "nodePlace", "(LZfsmill;II)I"⟩
abbrev cL_rootPlace : ByteArray := method_18_code
def yL_rootPlace : MethodName := ⟨RL, "rootPlace", "(LZfsmill;I)I"⟩
abbrev cL_birth : ByteArray := method_19_code
def yL_birth : MethodName := ⟨RL, "birth", "(LZfsmill;II)I"⟩
abbrev cL_sum : ByteArray := method_20_code
def yL_sum : MethodName := ⟨RL, "sum", "(LZfsmill;I)I"⟩
abbrev cL_drawn : ByteArray := method_21_code
def yL_drawn : MethodName := ⟨RL, "drawn", "([II)I"⟩
abbrev cL_refuses : ByteArray := method_22_code
def yL_refuses : MethodName := ⟨RL, "refuses", "(LZfsmill;I)Z"⟩
abbrev cL_act : ByteArray := method_23_code
def yL_act : MethodName := ⟨RL, "act", "(LZfsmill;I[I[I)I"⟩
abbrev cL_alike : ByteArray := method_24_code
def yL_alike : MethodName := ⟨RL, "alike", "(LZfsmill;LZfsmill;I)Z"⟩
abbrev cL_isOwn : ByteArray := method_25_code
def yL_isOwn : MethodName := ⟨RL, "isOwn", "(LZfsmill;[JI)Z"⟩
abbrev cL_holds : ByteArray := method_26_code
def yL_holds : MethodName := ⟨RL, "holds", "(LZfsmill;[I[I[J)Z"⟩
abbrev cL_isTrue : ByteArray := method_27_code
def yL_isTrue : MethodName := ⟨RL, "isTrue", "(LZfsmill;[I)Z"⟩
abbrev cL_law : ByteArray := code
def yL_law : MethodName := ⟨RL, "law", "([I)Z"⟩
abbrev cL_sides : ByteArray := method_29_code
def yL_sides : MethodName := ⟨RL, "sides", "(I)Z"⟩
theorem dJ7_fill_53178_0 : decode cJ7_fill_53178 0 = .ok (.iconst 0, 1) := by decide +kernel
theorem dJ7_fill_53178_1 : decode cJ7_fill_53178 1 = .ok (.istore_n 2, 1) := by decide +kernel
theorem dJ7_fill_53178_2 : decode cJ7_fill_53178 2 = .ok (.aload_n 0, 1) := by decide +kernel
theorem dJ7_fill_53178_3 : decode cJ7_fill_53178 3 = .ok (.arraylength, 1) := by decide +kernel
theorem dJ7_fill_53178_4 : decode cJ7_fill_53178 4 = .ok (.istore_n 3, 1) := by decide +kernel
theorem dJ7_fill_53178_5 : decode cJ7_fill_53178 5 = .ok (.iload_n 2, 1) := by decide +kernel
theorem dJ7_fill_53178_6 : decode cJ7_fill_53178 6 = .ok (.iload_n 3, 1) := by decide +kernel
theorem dJ7_fill_53178_7 : decode cJ7_fill_53178 7 = .ok (.if_icmp .ge 13, 3) := by decide +kernel
theorem dJ7_fill_53178_10 : decode cJ7_fill_53178 10 = .ok (.aload_n 0, 1) := by decide +kernel
theorem dJ7_fill_53178_11 : decode cJ7_fill_53178 11 = .ok (.iload_n 2, 1) := by decide +kernel
theorem dJ7_fill_53178_12 : decode cJ7_fill_53178 12 = .ok (.iload_n 1, 1) := by decide +kernel
theorem dJ7_fill_53178_13 : decode cJ7_fill_53178 13 = .ok (.iastore, 1) := by decide +kernel
theorem dJ7_fill_53178_14 : decode cJ7_fill_53178 14 = .ok (.iinc 2 1, 3) := by decide +kernel
theorem dJ7_fill_53178_17 : decode cJ7_fill_53178 17 = .ok (.goto (-12), 3) := by decide +kernel
theorem dJ7_fill_53178_20 : decode cJ7_fill_53178 20 = .ok (.return_, 1) := by decide +kernel
abbrev vwCl : List vw_C := [(RX0, TX0, 4), (RX1, TX1, 4), (RX2, TX2, 2), (RX3, TX3, 5), (RX4, TX4, 6)]
end
section
/-! ===== CORE: a world of a fixed shape; its memory is a function of a cell's number and a place ===== -/
abbrev Mem : Type := Nat → Nat → Int32
abbrev SV : Type := Int32 ⊕ Nat
/-- a cell's shape: an object of a class with its fields (some k: the cell k, none: an int), or an array (false: int, true: boolean, none: long, 64 places of the memory for each of its own, a bit each) -/
abbrev ShE : Type := (Nat × List (Option Nat)) ⊕ (Option Bool × Nat)
/-- launch, the classes' numbers, int[], boolean[] and long[], addresses, shape -/
abbrev ZG : Type := Launch × va_G × (ClassId × ClassId × ClassId) × (Nat → Nat) × List ShE
/-- a long out of its bits -/
def zbn (f : Nat → Int32) (i : Nat) : Nat → Nat
  | 0 => 0
  | n + 1 => zbn f i n + (if f (64 * i + n) = 0 then 0 else 2 ^ n)
def zbl (f : Nat → Int32) (i : Nat) : Int64 := Int64.ofBitVec (BitVec.ofNat 64 (zbn f i 64))
def zv (g : ZG) : SV → Value
  | .inl x => .int x
  | .inr k => .ref (g.2.2.2.1 k)
def zfv (g : ZG) (f : Nat → Int32) (j : Nat) : Option Nat → Value
  | some k => .ref (g.2.2.2.1 k)
  | none => .int (f j)
def zfl (g : ZG) (f : Nat → Int32) : Nat → List (Option Nat) → List Value
  | _, [] => []
  | j, o :: r => zfv g f j o :: zfl g f (j + 1) r
def zcl (g : ZG) (f : Nat → Int32) : ShE → va_E
  | .inl o => .inr (o.1, zfl g f 0 o.2)
  | .inr (some false, n) => .inl (g.2.2.1.1, n, .inl f)
  | .inr (some true, n) => .inl (g.2.2.1.2.1, n, .inl f)
  | .inr (none, n) => .inl (g.2.2.1.2.2, n, .inr (.inl (zbl f)))
def zwr (g : ZG) (M : Mem) : Nat → List ShE → va_W
  | _, [] => []
  | k, x :: r => (g.2.2.2.1 k, zcl g (M k) x) :: zwr g M (k + 1) r
def zws (g : ZG) (M : Mem) : va_W := zwr g M 0 g.2.2.2.2
def mset (M : Mem) (k : Nat) (f : Nat → Int32) : Mem := fun a => if a = k then f else M a
def mup (M : Mem) (k i : Nat) (v : Int32) : Mem := mset M k (upd (M k) i v)
theorem mset_eq (M : Mem) (k : Nat) (f : Nat → Int32) : mset M k f k = f := by simp [mset]
theorem mset_ne {M : Mem} {k a : Nat} {f : Nat → Int32} (h : a ≠ k) : mset M k f a = M a := by simp [mset, h]
theorem zwr_get (g : ZG) (M : Mem) (sh : List ShE) : ∀ (k i : Nat), (zwr g M k sh)[i]? = (sh[i]?).map (fun x => (g.2.2.2.1 (k + i), zcl g (M (k + i)) x)) := by
  induction sh with
  | nil => intro k i; simp [zwr]
  | cons x r ih =>
    intro k i
    cases i with
    | zero => simp [zwr]
    | succ i =>
      have e : k + 1 + i = k + (i + 1) := by omega
      simp [zwr, ih, e]
theorem zws_get (g : ZG) (M : Mem) (i : Nat) : (zws g M)[i]? = (g.2.2.2.2[i]?).map (fun x => (g.2.2.2.1 i, zcl g (M i) x)) := by
  unfold zws
  rw [zwr_get]
  simp only [Nat.zero_add]
theorem zws_at {g : ZG} {M : Mem} {k : Nat} {x : ShE} (h : g.2.2.2.2[k]? = some x) : (zws g M)[k]? = some (g.2.2.2.1 k, zcl g (M k) x) := by
  rw [zws_get, h]
  rfl
theorem zws_inv {g : ZG} {M : Mem} {k : Nat} {q : Nat × va_E} (h : (zws g M)[k]? = some q) : ∃ x, g.2.2.2.2[k]? = some x ∧ q = (g.2.2.2.1 k, zcl g (M k) x) := by
  rw [zws_get] at h
  cases hx : g.2.2.2.2[k]? with
  | none => rw [hx] at h; cases h
  | some x => rw [hx] at h; exact ⟨x, rfl, (Option.some.inj h).symm⟩
theorem zws_set {g : ZG} {M : Mem} {k : Nat} {x : ShE} {f : Nat → Int32} {e : va_E} (h : g.2.2.2.2[k]? = some x) (he : zcl g f x = e) : (zws g M).set k (g.2.2.2.1 k, e) = zws g (mset M k f) := by
  apply List.ext_getElem?
  intro i
  rw [List.getElem?_set, zws_get, zws_get]
  by_cases hi : k = i
  · subst hi
    have hl : k < (zws g M).length := (List.getElem?_eq_some_iff.mp (zws_at (M := M) h)).1
    rw [if_pos rfl, if_pos hl, h, mset_eq, ← he]
    rfl
  · rw [if_neg hi, mset_ne (fun q => hi q.symm)]
theorem zfl_get (g : ZG) (f : Nat → Int32) (fs : List (Option Nat)) : ∀ (j i : Nat), (zfl g f j fs)[i]? = (fs[i]?).map (zfv g f (j + i)) := by
  induction fs with
  | nil => intro j i; simp [zfl]
  | cons x r ih =>
    intro j i
    cases i with
    | zero => simp [zfl]
    | succ i =>
      have e : j + 1 + i = j + (i + 1) := by omega
      simp [zfl, ih, e]
theorem zfl_set {g : ZG} {f : Nat → Int32} {fs : List (Option Nat)} {k : Nat} (h : fs[k]? = some none) (v : Int32) : (zfl g f 0 fs).set k (.int v) = zfl g (upd f k v) 0 fs := by
  apply List.ext_getElem?
  intro i
  rw [List.getElem?_set, zfl_get, zfl_get]
  by_cases hi : k = i
  · subst hi
    have hl : k < (zfl g f 0 fs).length := by
      have h1 : (zfl g f 0 fs)[k]? = some (.int (f (0 + k))) := by rw [zfl_get, h]; rfl
      exact (List.getElem?_eq_some_iff.mp h1).1
    rw [if_pos rfl, if_pos hl, h]
    simp [zfv, upd]
  · rw [if_neg hi]
    cases hx : fs[i]? with
    | none => rfl
    | some o =>
      cases o with
      | some q => rfl
      | none =>
        have : ¬ i = k := fun q => hi q.symm
        simp [zfv, upd, this]
/-- the addresses that a method over this world may write -/
def zA (g : ZG) (sz : Nat) : Nat → Prop := fun q => (∃ (k : Nat) (x : ShE), g.2.2.2.2[k]? = some x ∧ q = g.2.2.2.1 k) ∨ sz ≤ q
theorem zD_any {g : ZG} {M N : Mem} {A : Nat → Prop} (h : va_D A (zws g M)) : va_D A (zws g N) := by
  refine ⟨fun i j p q hp hq e => ?_, fun k q hq => ?_⟩
  · obtain ⟨x, hx, rfl⟩ := zws_inv hp
    obtain ⟨y, hy, rfl⟩ := zws_inv hq
    exact h.1 i j _ _ (zws_at hx) (zws_at hy) e
  · obtain ⟨x, hx, rfl⟩ := zws_inv hq
    have h9 := h.2 k _ (zws_at (M := M) hx)
    exact h9
theorem zD_self {g : ZG} {M : Mem} {A : Nat → Prop} {sz : Nat} (h : va_D A (zws g M)) : va_D (zA g sz) (zws g M) := by
  refine ⟨h.1, fun k q hq => ?_⟩
  obtain ⟨x, hx, rfl⟩ := zws_inv hq
  exact Or.inl ⟨k, x, hx, rfl⟩
theorem zA_mono {g : ZG} {a b : Nat} (h : a ≤ b) : ∀ q, zA g b q → zA g a q := fun q hq => hq.elim Or.inl (fun h2 => Or.inr (Nat.le_trans h h2))
-- ===== what the tables say, beside the words of the list =====
def zTB : List Cond := lw_tbl.filter goodWord
theorem zTB_of {w : Cond} (h : w ∈ lw_tbl) (hg : goodWord w = true) : w ∈ zTB := List.mem_filter.mpr ⟨h, hg⟩
theorem zms {w : Cond} (i : Nat) (h : (k2_sels lw_privs)[i]? = some w) (hg : goodWord w = true) : w ∈ zTB := zTB_of (List.mem_append_left _ (List.mem_of_getElem? h)) hg
theorem zm1 {w : Cond} (i : Nat) (h : tables_1_1[i]? = some w) (hg : goodWord w = true) : w ∈ zTB := zTB_of (List.mem_append_right _ (List.mem_append_left _ (List.mem_of_getElem? h))) hg
theorem zm2 {w : Cond} (i : Nat) (h : tables_1_2[i]? = some w) (hg : goodWord w = true) : w ∈ zTB := zTB_of (List.mem_append_right _ (List.mem_append_right _ (List.mem_append_left _ (List.mem_of_getElem? h)))) hg
theorem zm3 {w : Cond} (i : Nat) (h : tables_1_3[i]? = some w) (hg : goodWord w = true) : w ∈ zTB := zTB_of (List.mem_append_right _ (List.mem_append_right _ (List.mem_append_right _ (List.mem_append_left _ (List.mem_of_getElem? h))))) hg
theorem zm4 {w : Cond} (i : Nat) (h : tables_1_4[i]? = some w) (hg : goodWord w = true) : w ∈ zTB := zTB_of (List.mem_append_right _ (List.mem_append_right _ (List.mem_append_right _ (List.mem_append_right _ (List.mem_of_getElem? h))))) hg
def zNW : List Cond := [.fieldLinkNest RX4 137 RX2 "number" "I" RX4, .methodLinkNest RX0 25 yX4_isSideOfMirror RX4, .methodLinkNest RX0 29 yX4_isPlaceNumber RX4, .methodLinkNest RX0 33 yX4_placeNumber RX4, .methodLinkNest RX0 40 yX4_isCellOnSide RX4, .methodLinkNest RX0 43 yX4_mirrorOf RX4,
  .methodLinkNest RX1 36 yX4_isPointer RX4, .methodLinkNest RX1 44 yX4_mirrorOf RX4, .methodLinkNest RX1 50 yX4_isMirror RX4, .methodLinkNest RX1 53 yX4_placeNumber RX4, .methodLinkNest RX1 60 yX4_isCell RX4, .methodLinkNest RX2 25 yX4_isBlockPointer RX4, .methodLinkNest RX2 29 yX4_blockPointer RX4, .methodLinkNest RX3 33 yX4_isBlockPointer RX4, .methodLinkNest RX3 41 yX4_isPointer RX4]
def zCW : List Cond := [.castable "java/lang/IllegalArgumentException" "java/lang/IllegalArgumentException", .castable "java/lang/IllegalStateException" "java/lang/IllegalStateException", .castable "java/util/NoSuchElementException" "java/util/NoSuchElementException",
  .declares (Bundle.initS "java/lang/RuntimeException"), .declares (Bundle.initS "java/lang/Exception"), .declares (Bundle.initS "java/lang/Throwable")]
def zST : List (Nat × String) := [(57, "file, block or value is out of range"), (77, "file, from or to is out of range"), (82, "file or copies is out of range"), (84, "file or block is out of range"), (101, "a pointer cannot be read"), (112, "all blocks from this one on are holes"), (123, "there is no free cell for some place"), (143, "mirror or side is out of range"), (148, "a side of the mirror is offline"), (154, "the side is online"), (165, "mirror, side or cell is out of range"), (173, "the side is offline, or the cell is free"), (182, "the side is offline"), (187, "mirror or cell is out of range"), (189, "mirror is out of range"), (226, "there is no such place"), (215, "file is out of range")]
theorem zTB_good : ∀ w ∈ zTB, w ∈ zTB ∧ ((w.onTables && w.keeps) = true ∨ ∃ ty, w = .arrayClass ty) := fun w hw => ⟨hw, good_of_word (List.mem_filter.mp hw).2⟩
def zNc (U : State) : Prop := va_Nc "java/lang/IllegalStateException" "java/lang/IllegalArgumentException" U ∧ va_Nc "java/util/NoSuchElementException" "java/lang/IllegalArgumentException" U
def zK (g : ZG) (U : State) : Prop := va_K g.2.1 vwCl [(g.2.2.1.1, .int), (g.2.2.1.2.1, .boolean), (g.2.2.1.2.2, .long)] U ∧ (∀ w ∈ zNW, va_Nw w U) ∧ (∀ w ∈ zCW, va_Nw w U) ∧ zNc U ∧ ∀ q ∈ zST, ∃ sa : Nat, vk_R RX4 q.1 q.2 sa U
def zE (A : Nat → Prop) (U : State) (H : Heap) : Prop := vx_Zq Bundle.tN "UNASSIGNED_STACK" Bundle.steD A U H ∧ vx_Zq Bundle.tN "SUPPRESSED_SENTINEL" Bundle.listD A U H
theorem zK.warm {g : ZG} {s U : State} (hW : s.WarmedH U.vm) (h : zK g s) : zK g U := by
  refine ⟨va_K.moved hW.alike h.1, ?_, ?_, ⟨va_Nc.moved hW.alike h.2.2.2.1.1, va_Nc.moved hW.alike h.2.2.2.1.2⟩, fun q hq => ?_⟩
  · have h2 := h.2.1
    unfold zNW at h2 ⊢
    simp only [List.forall_mem_cons, List.not_mem_nil, false_imp_iff, implies_true, and_true] at h2 ⊢
    obtain ⟨h0, h1, h2, h3, h4, h5, h6, h7, h8, h9, h10, h11, h12, h13, h14⟩ := h2
    exact ⟨h0.warmF hW, h1.warmM hW, h2.warmM hW, h3.warmM hW, h4.warmM hW, h5.warmM hW, h6.warmM hW, h7.warmM hW, h8.warmM hW, h9.warmM hW, h10.warmM hW, h11.warmM hW, h12.warmM hW, h13.warmM hW, h14.warmM hW⟩
  · have h2 := h.2.2.1
    unfold zCW at h2 ⊢
    simp only [List.forall_mem_cons, List.not_mem_nil, false_imp_iff, implies_true, and_true] at h2 ⊢
    exact ⟨h2.1.warmC hW, h2.2.1.warmC hW, h2.2.2.1.warmC hW, h2.2.2.2.1.warmD hW, h2.2.2.2.2.1.warmD hW, h2.2.2.2.2.2.warmD hW⟩
  · obtain ⟨sa, hs⟩ := h.2.2.2.2 q hq
    exact ⟨sa, vk_R.warm hW hs⟩
theorem zK.same {g : ZG} {s U : State} (hv : s.vm = U.vm) (h : zK g s) : zK g U := h.warm (by rw [← hv]; exact State.WarmedH.refl s)
theorem zE.warm {A : Nat → Prop} {s U : State} {H : Heap} (hW : s.WarmedH U.vm) (h : zE A s H) : zE A U H := ⟨vx_Zq.moved hW.alike h.1, vx_Zq.moved hW.alike h.2⟩
theorem zE.kept {A : Nat → Prop} {U : State} {H H1 : Heap} (h : zE A U H) (hq : ∀ a : Nat, a < H.size → ¬ A a → H1[a]? = H[a]?) : zE A U H1 := ⟨vx_Zq.kept h.1 hq, vx_Zq.kept h.2 hq⟩
theorem zE.narrow {A B : Nat → Prop} {U : State} {H : Heap} (h : zE A U H) (hAB : ∀ q, B q → A q) : zE B U H := ⟨vx_Zq.narrow h.1 hAB, vx_Zq.narrow h.2 hAB⟩
-- ===== contracts =====
/-- name, code, number of locals, type of the answer, frames, words of locals -/
abbrev MI : Type := MethodName × ByteArray × Nat × Option FieldType × Nat × Nat
def zwm (μ : MI) : List Cond := Cond.code μ.1 μ.2.1 μ.2.2.1 μ.2.2.2.1 :: zTB
abbrev ZR : Type := (Option Int32 ⊕ String) × Mem
def zPre (g : ZG) (M : Mem) (sz : Nat) (U : State) : Prop := U.heap.size = sz ∧ va_P g.2.1 vwCl (zws g M) U.heap ∧ va_D (fun _ => True) (zws g M) ∧ zK g U ∧ zE (zA g sz) U U.heap
def zQ (g : ZG) (A : Nat → Prop) (B : ZR) : Array Value → State → Outcome → State → Prop := fun _ st oc t => (∃ (r : Option Int32) (N : Mem), B = (.inl r, N) ∧ oc = .returned (r.map Value.int) ∧ va_P g.2.1 vwCl (zws g N) t.heap) ∧ va_F A st t
def zX (g : ZG) (A : Nat → Prop) (B : ZR) : String → State → State → Prop := fun E st t => (∃ N : Mem, B = (.inr E, N) ∧ va_P g.2.1 vwCl (zws g N) t.heap) ∧ va_F A st t
def zRm (μ : MI) (mc ms : Nat) : Room := { frames := μ.2.2.2.2.1, cells := mc, slots := ms, locals := μ.2.2.2.2.2 }
def Zc (g : ZG) (μ : MI) (mc ms : Nat) (args : List SV) (M : Mem) (B : ZR) : Prop :=
  ∀ sz : Nat, vx_Met g.1 μ.1 (zwm μ) (zRm μ mc ms) (va_Pc (args.map (zv g)) (zPre g M sz)) (zQ g (zA g sz) B) (zX g (zA g sz) B) mc ms (zA g sz)
def zL (g : ZG) (ls : Array Slot) (n : Nat) (L : List (Option SV)) : Prop := ls.size = n ∧ lv_wf ls ∧ L.length ≤ n ∧ ∀ (i : Nat) (v : SV), L[i]? = some (some v) → ls[i]? = some (.val (zv g v))
def zCx (g : ZG) (μ : MI) (p : Program) (s : State) (m : MethodId) (args : Array Value) (meth : Method) (c : Code) (sz : Nat) : Prop :=
  p.tables.exec = Jvm.exec ∧ c.code = μ.2.1 ∧ meth.sig.returnType = μ.2.2.2.1 ∧ c.maxLocals = μ.2.2.1 ∧ s.vm.findClass μ.1.cls = some m.cls ∧ (∀ w ∈ zTB, w.before args s = true) ∧ meth.locks = false ∧ (∀ x ∈ c.exceptionTable.toList, False) ∧ zK g s ∧ s.heap.size = sz ∧ zE (zA g sz) s s.heap ∧ Cond.code μ.1 μ.2.1 μ.2.2.1 μ.2.2.2.1 ∈ zTB
def Zg (g : ZG) (μ : MI) (mc ms ce sl : Nat) (B : ZR) (pc : Nat) (L : List (Option SV)) (S : List SV) (M : Mem) : Prop :=
  ∀ (p : Program) (e : Env) (s : State) (m : MethodId) (args : Array Value) (below : List Frame) (meth : Method) (c : Code) (H : Heap) (locs : List Loc) (ls : Array Slot) (sz : Nat),
    zCx g μ p s m args meth c sz → va_P g.2.1 vwCl (zws g M) H → va_D (zA g sz) (zws g M) → va_S (zA g sz) s.heap H locs → zL g ls μ.2.2.1 L →
    W p g.1 e (zRm μ mc ms) s m args below meth c H locs ce sl (vx_MQ below (zQ g (zA g sz) B) (zX g (zA g sz) B) args s mc ms (zA g sz)) (F0 m pc ls (S.map (zv g)))
theorem zcat (g : ZG) (v : SV) : (zv g v).category = 1 := by cases v <;> rfl
theorem zlg (g : ZG) (args : List SV) : lg_sl (args.map (zv g)) = args.map (fun v => Slot.val (zv g v)) := by
  induction args with
  | nil => rfl
  | cons v r ih =>
    have h : ¬ (zv g v).category = 2 := by rw [zcat]; decide
    have e : lg_sl ((v :: r).map (zv g)) = (if (zv g v).category = 2 then [Slot.val (zv g v), .second] else [.val (zv g v)]) ++ lg_sl (r.map (zv g)) := by simp [lg_sl]
    rw [e, if_neg h, ih]
    rfl
theorem zL_entry (g : ZG) (args : List SV) {n : Nat} (h : args.length ≤ n) : zL g ((lg_sl (args.map (zv g)) ++ List.replicate (n - (lg_sl (args.map (zv g))).length) Slot.unset).toArray) n (args.map some ++ List.replicate (n - args.length) none) := by
  have hlen : (lg_sl (args.map (zv g))).length = args.length := by rw [zlg]; simp
  have hl := lv_entry (args.map (zv g)) (n := n) (by rw [hlen]; exact h)
  refine ⟨hl.1, hl.2.1, by simp; omega, fun i v hv => ?_⟩
  by_cases hi : i < args.length
  · rw [List.getElem?_append_left (by simpa using hi), List.getElem?_map] at hv
    rw [zlg]
    simp only [List.getElem?_toArray]
    rw [List.getElem?_append_left (by simpa using hi), List.getElem?_map]
    cases hx : args[i]? with
    | none => rw [hx] at hv; cases hv
    | some w =>
      rw [hx] at hv
      have : w = v := Option.some.inj (Option.some.inj hv)
      rw [this]
      rfl
  · rw [List.getElem?_append_right (by simpa using hi)] at hv
    rw [List.getElem?_replicate] at hv
    split at hv
    · cases hv
    · cases hv
def zas (g : ZG) : Nat → List (Option SV) → List (Nat × Value)
  | _, [] => []
  | i, some v :: r => (i, zv g v) :: zas g (i + 1) r
  | i, none :: r => zas g (i + 1) r
theorem zas_mem (g : ZG) (L : List (Option SV)) : ∀ (k : Nat) (q : Nat × Value), q ∈ zas g k L ↔ ∃ (i : Nat) (v : SV), L[i]? = some (some v) ∧ q = (k + i, zv g v) := by
  induction L with
  | nil => intro k q; simp [zas]
  | cons o r ih =>
    intro k q
    cases o with
    | none =>
      rw [show zas g k (none :: r) = zas g (k + 1) r from rfl, ih]
      constructor
      · rintro ⟨i, v, h1, h2⟩
        exact ⟨i + 1, v, by simpa using h1, by rw [h2]; congr 1; omega⟩
      · rintro ⟨i, v, h1, h2⟩
        cases i with
        | zero => simp at h1
        | succ i => exact ⟨i, v, by simpa using h1, by rw [h2]; congr 1; omega⟩
    | some w =>
      rw [show zas g k (some w :: r) = (k, zv g w) :: zas g (k + 1) r from rfl, List.mem_cons, ih]
      constructor
      · rintro (h | ⟨i, v, h1, h2⟩)
        · exact ⟨0, w, by simp, by rw [h]; rfl⟩
        · exact ⟨i + 1, v, by simpa using h1, by rw [h2]; congr 1; omega⟩
      · rintro ⟨i, v, h1, h2⟩
        cases i with
        | zero =>
          left
          have : w = v := by simpa using h1
          rw [h2, this]; rfl
        | succ i => exact Or.inr ⟨i, v, by simpa using h1, by rw [h2]; congr 1; omega⟩
theorem zL_has {g : ZG} {ls : Array Slot} {n : Nat} {L : List (Option SV)} (h : zL g ls n L) : lv_has ls n (zas g 0 L) := by
  refine ⟨h.1, h.2.1, fun q hq => ?_⟩
  obtain ⟨i, v, h1, h2⟩ := (zas_mem g L 0 q).mp hq
  rw [h2]
  have := h.2.2.2 i v h1
  simpa using this
theorem zL_put {g : ZG} {ls : Array Slot} {n i : Nat} {L : List (Option SV)} {v : SV} (hn : L.length ≤ n) (h : lv_has ls n ((i, zv g v) :: (zas g 0 L).filter (fun q => !(q.1 == i) && !(q.1 + 1 == i && q.2.category == 2)))) : zL g ls n (L.set i (some v)) := by
  refine ⟨h.1, h.2.1, by simpa using hn, fun j w hj => ?_⟩
  rw [List.getElem?_set] at hj
  by_cases e : i = j
  · subst e
    rw [if_pos rfl] at hj
    split at hj
    · have : v = w := Option.some.inj (Option.some.inj hj)
      rw [← this]
      exact h.2.2 (i, zv g v) List.mem_cons_self
    · cases hj
  · rw [if_neg e] at hj
    refine h.2.2 (j, zv g w) (List.mem_cons_of_mem _ (List.mem_filter.mpr ⟨(zas_mem g L 0 _).mpr ⟨j, w, hj, by simp⟩, ?_⟩))
    have e2 : ¬ j = i := fun q => e q.symm
    simp [e2, zcat]
theorem zL_mem {g : ZG} {L : List (Option SV)} {i : Nat} {v : SV} (h : L[i]? = some (some v)) : ∃ k : Nat, (zas g 0 L)[k]? = some (i, zv g v) := List.getElem?_of_mem ((zas_mem g L 0 _).mpr ⟨i, v, h, by simp⟩)
end
section
/-! ===== RULES: an instruction, a rule ===== -/
section ZGR
variable {g : ZG} {μ : MI} {mc ms ce sl : Nat} {B : ZR} {pc : Nat} {L : List (Option SV)} {S : List SV} {M : Mem}
theorem zg_iconst {n : Int} {v : Int32} (d : decode μ.2.1 pc = .ok (.iconst n, 1)) (hv : Int32.ofInt n = v) (h : Zg g μ mc ms ce sl B (pc + 1) L (.inl v :: S) M) : Zg g μ mc ms ce sl B pc L S M :=
  fun p e s m args below meth c H locs ls sz C hP hD hS hL => lv_iconst C.1 C.2.1 d hv (h p e s m args below meth c H locs ls sz C hP hD hS hL)
theorem zg_bipush {n : Int} {v : Int32} (d : decode μ.2.1 pc = .ok (.bipush n, 2)) (hv : (Int8.ofInt n).toInt32 = v) (h : Zg g μ mc ms ce sl B (pc + 2) L (.inl v :: S) M) : Zg g μ mc ms ce sl B pc L S M :=
  fun p e s m args below meth c H locs ls sz C hP hD hS hL => lv_bipush C.1 C.2.1 d hv (h p e s m args below meth c H locs ls sz C hP hD hS hL)
theorem zg_sipush {n : Int} {v : Int32} (d : decode μ.2.1 pc = .ok (.sipush n, 3)) (hv : (Int16.ofInt n).toInt32 = v) (h : Zg g μ mc ms ce sl B (pc + 3) L (.inl v :: S) M) : Zg g μ mc ms ce sl B pc L S M :=
  fun p e s m args below meth c H locs ls sz C hP hD hS hL => lv_sipush C.1 C.2.1 d hv (h p e s m args below meth c H locs ls sz C hP hD hS hL)
theorem zg_ldc {i : Nat} {v : Int32} (d : decode μ.2.1 pc = .ok (.ldc i, 2)) (hv : Cond.constant μ.1.cls i v ∈ zTB) (h : Zg g μ mc ms ce sl B (pc + 2) L (.inl v :: S) M) : Zg g μ mc ms ce sl B pc L S M :=
  fun p e s m args below meth c H locs ls sz C hP hD hS hL => lv_ldc C.1 C.2.1 C.2.2.2.2.1 (C.2.2.2.2.2.1 _ hv) d (h p e s m args below meth c H locs ls sz C hP hD hS hL)
theorem zg_ldcw {i : Nat} {v : Int32} (d : decode μ.2.1 pc = .ok (.ldc_w i, 3)) (hv : Cond.constant μ.1.cls i v ∈ zTB) (h : Zg g μ mc ms ce sl B (pc + 3) L (.inl v :: S) M) : Zg g μ mc ms ce sl B pc L S M :=
  fun p e s m args below meth c H locs ls sz C hP hD hS hL => lv_ldcw C.1 C.2.1 C.2.2.2.2.1 (C.2.2.2.2.2.1 _ hv) d (h p e s m args below meth c H locs ls sz C hP hD hS hL)
theorem zg_iload_n {k : Fin 4} {x : Int32} (d : decode μ.2.1 pc = .ok (.iload_n k, 1)) (hl : L[(k : Nat)]? = some (some (.inl x))) (h : Zg g μ mc ms ce sl B (pc + 1) L (.inl x :: S) M) : Zg g μ mc ms ce sl B pc L S M :=
  fun p e s m args below meth c H locs ls sz C hP hD hS hL => lv_iload_n C.1 C.2.1 d rfl (hL.2.2.2 _ _ hl) (h p e s m args below meth c H locs ls sz C hP hD hS hL)
theorem zg_iload {k : Nat} {x : Int32} (d : decode μ.2.1 pc = .ok (.iload k, 2)) (hl : L[k]? = some (some (.inl x))) (h : Zg g μ mc ms ce sl B (pc + 2) L (.inl x :: S) M) : Zg g μ mc ms ce sl B pc L S M :=
  fun p e s m args below meth c H locs ls sz C hP hD hS hL => lv_iload C.1 C.2.1 d (hL.2.2.2 _ _ hl) (h p e s m args below meth c H locs ls sz C hP hD hS hL)
theorem zg_aload_n {k : Fin 4} {x : Nat} (d : decode μ.2.1 pc = .ok (.aload_n k, 1)) (hl : L[(k : Nat)]? = some (some (.inr x))) (h : Zg g μ mc ms ce sl B (pc + 1) L (.inr x :: S) M) : Zg g μ mc ms ce sl B pc L S M :=
  fun p e s m args below meth c H locs ls sz C hP hD hS hL => lv_aload_n C.1 C.2.1 d rfl (hL.2.2.2 _ _ hl) (h p e s m args below meth c H locs ls sz C hP hD hS hL)
theorem zg_aload {k : Nat} {x : Nat} (d : decode μ.2.1 pc = .ok (.aload k, 2)) (hl : L[k]? = some (some (.inr x))) (h : Zg g μ mc ms ce sl B (pc + 2) L (.inr x :: S) M) : Zg g μ mc ms ce sl B pc L S M :=
  fun p e s m args below meth c H locs ls sz C hP hD hS hL => lv_aload C.1 C.2.1 d (hL.2.2.2 _ _ hl) (h p e s m args below meth c H locs ls sz C hP hD hS hL)
theorem zg_istore_n {k : Fin 4} {x : Int32} (d : decode μ.2.1 pc = .ok (.istore_n k, 1)) (hk : (k : Nat) < μ.2.2.1) (h : Zg g μ mc ms ce sl B (pc + 1) (L.set (k : Nat) (some (.inl x))) S M) : Zg g μ mc ms ce sl B pc L (.inl x :: S) M :=
  fun p e s m args below meth c H locs ls sz C hP hD hS hL => lv_istore_n C.1 C.2.1 d rfl (zL_has hL) hk rfl (fun ls' hl' => h p e s m args below meth c H locs ls' sz C hP hD hS (zL_put (v := .inl x) hL.2.2.1 hl'))
theorem zg_istore {k : Nat} {x : Int32} (d : decode μ.2.1 pc = .ok (.istore k, 2)) (hk : k < μ.2.2.1) (h : Zg g μ mc ms ce sl B (pc + 2) (L.set k (some (.inl x))) S M) : Zg g μ mc ms ce sl B pc L (.inl x :: S) M :=
  fun p e s m args below meth c H locs ls sz C hP hD hS hL => lv_istore C.1 C.2.1 d (zL_has hL) hk rfl (fun ls' hl' => h p e s m args below meth c H locs ls' sz C hP hD hS (zL_put (v := .inl x) hL.2.2.1 hl'))
theorem zg_iinc {k : Nat} {n : Int} {x v : Int32} (d : decode μ.2.1 pc = .ok (.iinc k n, 3)) (hl : L[k]? = some (some (.inl x))) (hk : k < μ.2.2.1) (hv : x + Int32.ofInt n = v) (h : Zg g μ mc ms ce sl B (pc + 3) (L.set k (some (.inl v))) S M) : Zg g μ mc ms ce sl B pc L S M := by
  intro p e s m args below meth c H locs ls sz C hP hD hS hL
  obtain ⟨j, hj⟩ := zL_mem (g := g) hl
  exact lv_iinc C.1 C.2.1 d (zL_has hL) hj hv hk rfl (fun ls' hl' => h p e s m args below meth c H locs ls' sz C hP hD hS (zL_put (v := .inl v) hL.2.2.1 hl'))
theorem zg_iadd {x y : Int32} (d : decode μ.2.1 pc = .ok (.iadd, 1)) (h : Zg g μ mc ms ce sl B (pc + 1) L (.inl (x + y) :: S) M) : Zg g μ mc ms ce sl B pc L (.inl y :: .inl x :: S) M :=
  fun p e s m args below meth c H locs ls sz C hP hD hS hL => lv_iadd C.1 C.2.1 d (h p e s m args below meth c H locs ls sz C hP hD hS hL)
theorem zg_isub {x y : Int32} (d : decode μ.2.1 pc = .ok (.isub, 1)) (h : Zg g μ mc ms ce sl B (pc + 1) L (.inl (x - y) :: S) M) : Zg g μ mc ms ce sl B pc L (.inl y :: .inl x :: S) M :=
  fun p e s m args below meth c H locs ls sz C hP hD hS hL => lv_isub C.1 C.2.1 d (h p e s m args below meth c H locs ls sz C hP hD hS hL)
theorem zg_imul {x y : Int32} (d : decode μ.2.1 pc = .ok (.imul, 1)) (h : Zg g μ mc ms ce sl B (pc + 1) L (.inl (x * y) :: S) M) : Zg g μ mc ms ce sl B pc L (.inl y :: .inl x :: S) M :=
  fun p e s m args below meth c H locs ls sz C hP hD hS hL => lv_imul C.1 C.2.1 d (h p e s m args below meth c H locs ls sz C hP hD hS hL)
theorem zg_idiv {x y : Int32} (d : decode μ.2.1 pc = .ok (.idiv, 1)) (hy : ¬ y = 0) (h : Zg g μ mc ms ce sl B (pc + 1) L (.inl (x / y) :: S) M) : Zg g μ mc ms ce sl B pc L (.inl y :: .inl x :: S) M :=
  fun p e s m args below meth c H locs ls sz C hP hD hS hL => lv_idiv C.1 C.2.1 d hy (h p e s m args below meth c H locs ls sz C hP hD hS hL)
theorem zg_irem {x y : Int32} (d : decode μ.2.1 pc = .ok (.irem, 1)) (hy : ¬ y = 0) (h : Zg g μ mc ms ce sl B (pc + 1) L (.inl (x - x / y * y) :: S) M) : Zg g μ mc ms ce sl B pc L (.inl y :: .inl x :: S) M :=
  fun p e s m args below meth c H locs ls sz C hP hD hS hL => lv_irem C.1 C.2.1 d hy (h p e s m args below meth c H locs ls sz C hP hD hS hL)
theorem zg_dup {v : SV} (d : decode μ.2.1 pc = .ok (.dup, 1)) (h : Zg g μ mc ms ce sl B (pc + 1) L (v :: v :: S) M) : Zg g μ mc ms ce sl B pc L (v :: S) M :=
  fun p e s m args below meth c H locs ls sz C hP hD hS hL => lv_dup C.1 C.2.1 d (zcat g v) (h p e s m args below meth c H locs ls sz C hP hD hS hL)
theorem zg_dup2 {v w : SV} (d : decode μ.2.1 pc = .ok (.dup2, 1)) (h : Zg g μ mc ms ce sl B (pc + 1) L (v :: w :: v :: w :: S) M) : Zg g μ mc ms ce sl B pc L (v :: w :: S) M :=
  fun p e s m args below meth c H locs ls sz C hP hD hS hL => lv_dup2_11 C.1 C.2.1 d (zcat g v) (zcat g w) (h p e s m args below meth c H locs ls sz C hP hD hS hL)
theorem zg_goto {off : Int} {tgt : Nat} (d : decode μ.2.1 pc = .ok (.goto off, 3)) (ht : (pc : Int) + off = (tgt : Int)) (h : Zg g μ mc ms ce sl B tgt L S M) : Zg g μ mc ms ce sl B pc L S M :=
  fun p e s m args below meth c H locs ls sz C hP hD hS hL => lv_goto C.1 C.2.1 d ht (h p e s m args below meth c H locs ls sz C hP hD hS hL)
/-- what a condition says of one number (against 0), of two -/
def zc1 : Jvm.ClassFile.Cond → Int32 → Prop
  | .eq, x => x = 0
  | .ne, x => ¬ x = 0
  | .lt, x => x < 0
  | .ge, x => 0 ≤ x
  | .gt, x => 0 < x
  | .le, x => x ≤ 0
def zc2 : Jvm.ClassFile.Cond → Int32 → Int32 → Prop
  | .eq, x, y => x = y
  | .ne, x, y => ¬ x = y
  | .lt, x, y => x < y
  | .ge, x, y => y ≤ x
  | .gt, x, y => y < x
  | .le, x, y => x ≤ y
theorem zg_if {cd : Jvm.ClassFile.Cond} {off : Int} {tgt : Nat} {x : Int32} (d : decode μ.2.1 pc = .ok (.ifCond cd off, 3)) (ht : (pc : Int) + off = (tgt : Int)) (h1 : zc1 cd x → Zg g μ mc ms ce sl B tgt L S M) (h2 : ¬ zc1 cd x → Zg g μ mc ms ce sl B (pc + 3) L S M) : Zg g μ mc ms ce sl B pc L (.inl x :: S) M := by
  intro p e s m args below meth c H locs ls sz C hP hD hS hL
  have k1 := fun q => h1 q p e s m args below meth c H locs ls sz C hP hD hS hL
  have k2 := fun q => h2 q p e s m args below meth c H locs ls sz C hP hD hS hL
  cases cd
  · exact lv_if_eq C.1 C.2.1 d ht k1 k2
  · exact lv_if_ne C.1 C.2.1 d ht k1 (fun q => k2 (fun z => z q))
  · exact lv_if_lt C.1 C.2.1 d ht k1 k2
  · exact lv_if_ge C.1 C.2.1 d ht k1 k2
  · exact lv_if_gt C.1 C.2.1 d ht k1 k2
  · exact lv_if_le C.1 C.2.1 d ht k1 k2
theorem zg_icmp {cd : Jvm.ClassFile.Cond} {off : Int} {tgt : Nat} {x y : Int32} (d : decode μ.2.1 pc = .ok (.if_icmp cd off, 3)) (ht : (pc : Int) + off = (tgt : Int)) (h1 : zc2 cd x y → Zg g μ mc ms ce sl B tgt L S M) (h2 : ¬ zc2 cd x y → Zg g μ mc ms ce sl B (pc + 3) L S M) : Zg g μ mc ms ce sl B pc L (.inl y :: .inl x :: S) M := by
  intro p e s m args below meth c H locs ls sz C hP hD hS hL
  have k1 := fun q => h1 q p e s m args below meth c H locs ls sz C hP hD hS hL
  have k2 := fun q => h2 q p e s m args below meth c H locs ls sz C hP hD hS hL
  cases cd
  · exact lv_icmp_eq C.1 C.2.1 d ht k1 k2
  · exact lv_icmp_ne C.1 C.2.1 d ht k1 (fun q => k2 (fun z => z q))
  · exact lv_icmp_lt C.1 C.2.1 d ht k1 k2
  · exact lv_icmp_ge C.1 C.2.1 d ht k1 k2
  · exact lv_icmp_gt C.1 C.2.1 d ht k1 k2
  · exact lv_icmp_le C.1 C.2.1 d ht k1 k2
-- fields
def zfg (own : String) (idx ci j : Nat) : Prop := ∃ (C : String) (T : u_T) (N : Nat) (host : String), vwCl[ci]? = some (C, T, N) ∧ (∀ w ∈ u_ws C T N, w ∈ zTB) ∧ j < N ∧ (Cond.fieldLink own idx (T j).1 (T j).2.1 (T j).2.2.1 ∈ zTB ∨ Cond.fieldLinkNest own idx (T j).1 (T j).2.1 (T j).2.2.1 host ∈ zNW)
def zfp (own : String) (idx ci j : Nat) : Prop := ∃ (C : String) (T : u_T) (N : Nat) (ty : Nat → FieldType), vwCl[ci]? = some (C, T, N) ∧ (∀ w ∈ u_ws C T N, w ∈ zTB) ∧ j < N ∧ Cond.fieldLink own idx (T j).1 (T j).2.1 (T j).2.2.1 ∈ zTB ∧ (∀ k, k < N → parseFieldDescriptor (T k).2.2.1 = some (ty k)) ∧ (∀ a, a < N → ∀ b, b < N → a ≠ b → (T a).2.1 ≠ (T b).2.1) ∧ (T j).2.2.2 = false ∧ parseFieldDescriptor (T j).2.2.1 = some .int
theorem zg_getf {idx ci j k : Nat} {fs : List (Option Nat)} {o : Option Nat} (d : decode μ.2.1 pc = .ok (.getfield idx, 3)) (hf : zfg μ.1.cls idx ci j) (hk : g.2.2.2.2[k]? = some (.inl (ci, fs))) (hj : fs[j]? = some o) {v : SV} (hv : (match o with | some q => Sum.inr q | none => .inl (M k j)) = v) (h : Zg g μ mc ms ce sl B (pc + 3) L (v :: S) M) : Zg g μ mc ms ce sl B pc L (.inr k :: S) M := by
  intro p e s m args below meth c H locs ls sz C hP hD hS hL
  obtain ⟨Cn, T, N, host, h1, h2, h3, h4⟩ := hf
  have hg : (zfl g (M k) 0 fs)[j]? = some (zv g v) := by
    rw [zfl_get, hj, ← hv]
    cases o with
    | some q => rfl
    | none => simp [zfv, zv]
  have hh := h p e s m args below meth c H locs ls sz C hP hD hS hL
  rcases h4 with h4 | h4
  · exact va_get C.1 C.2.1 C.2.2.2.2.2.1 h2 C.2.2.2.2.1 C.2.2.2.2.2.2.2.2.1.1 hP k (zws_at hk) h1 j h3 (C.2.2.2.2.2.1 _ h4) (fun _ q => q) hg d hh
  · exact va_getN C.1 C.2.1 C.2.2.2.2.2.1 h2 C.2.2.2.2.1 C.2.2.2.2.2.2.2.2.1.1 hP k (zws_at hk) h1 j h3 (va_Nw.use rfl (C.2.2.2.2.2.2.2.2.1.2.1 _ h4)) (fun _ q => q) hg d hh
theorem zg_putf {idx ci j k : Nat} {fs : List (Option Nat)} {x : Int32} (d : decode μ.2.1 pc = .ok (.putfield idx, 3)) (hf : zfp μ.1.cls idx ci j) (hk : g.2.2.2.2[k]? = some (.inl (ci, fs))) (hj : fs[j]? = some none) (h : Zg g μ mc ms ce sl B (pc + 3) L S (mup M k j x)) : Zg g μ mc ms ce sl B pc L (.inl x :: .inr k :: S) M := by
  intro p e s m args below meth c H locs ls sz C hP hD hS hL
  obtain ⟨Cn, T, N, ty, h1, h2, h3, h4, h5, h6, h7, h8⟩ := hf
  have hlen : j < (zfl g (M k) 0 fs).length := by
    have q : (zfl g (M k) 0 fs)[j]? = some (.int (M k (0 + j))) := by rw [zfl_get, hj]; rfl
    exact (List.getElem?_eq_some_iff.mp q).1
  refine va_put C.1 C.2.1 C.2.2.2.2.2.1 h2 ty h5 h6 C.2.2.2.2.1 C.2.2.2.2.2.2.2.2.1.1 hP hD hS k (zws_at hk) h1 j h3 (C.2.2.2.2.2.1 _ h4) (fun _ q => q) h7 (v := .int x) h8 rfl rfl hlen d (fun H1 locs1 hP1 hD1 hS1 => ?_)
  have he : (zws g M).set k (g.2.2.2.1 k, .inr (ci, (zfl g (M k) 0 fs).set j (.int x))) = zws g (mup M k j x) := zws_set hk (by rw [zfl_set hj]; rfl)
  rw [he] at hP1 hD1
  exact h p e s m args below meth c H1 locs1 ls sz C hP1 hD1 hS1 hL
-- arrays
theorem zg_iald {k n : Nat} {i : Int32} (d : decode μ.2.1 pc = .ok (.iaload, 1)) (hk : g.2.2.2.2[k]? = some (.inr (false, n))) (hi : vp_in i n) (h : Zg g μ mc ms ce sl B (pc + 1) L (.inl (M k i.toNatClampNeg) :: S) M) : Zg g μ mc ms ce sl B pc L (.inl i :: .inr k :: S) M :=
  fun p e s m args below meth c H locs ls sz C hP hD hS hL => va_iald C.1 C.2.1 C.2.2.2.2.2.2.2.2.1.1 hP k 0 (zws_at hk) rfl hi d (h p e s m args below meth c H locs ls sz C hP hD hS hL)
theorem zg_zald {k n : Nat} {i : Int32} (d : decode μ.2.1 pc = .ok (.baload, 1)) (hk : g.2.2.2.2[k]? = some (.inr (true, n))) (hi : vp_in i n) (h : Zg g μ mc ms ce sl B (pc + 1) L (.inl (M k i.toNatClampNeg) :: S) M) : Zg g μ mc ms ce sl B pc L (.inl i :: .inr k :: S) M :=
  fun p e s m args below meth c H locs ls sz C hP hD hS hL => va_zald C.1 C.2.1 C.2.2.2.2.2.2.2.2.1.1 hP k 1 (zws_at hk) rfl hi d (h p e s m args below meth c H locs ls sz C hP hD hS hL)
theorem zg_iast {k n : Nat} {i x : Int32} (d : decode μ.2.1 pc = .ok (.iastore, 1)) (hk : g.2.2.2.2[k]? = some (.inr (false, n))) (hi : vp_in i n) (h : Zg g μ mc ms ce sl B (pc + 1) L S (mup M k i.toNatClampNeg x)) : Zg g μ mc ms ce sl B pc L (.inl x :: .inl i :: .inr k :: S) M := by
  intro p e s m args below meth c H locs ls sz C hP hD hS hL
  refine va_iast C.1 C.2.1 C.2.2.2.2.2.2.2.2.1.1 hP hD hS k 0 (zws_at hk) rfl hi d (fun H1 locs1 hP1 hD1 hS1 => ?_)
  have he : (zws g M).set k (g.2.2.2.1 k, .inl (g.2.2.1.1, n, .inl (upd (M k) i.toNatClampNeg x))) = zws g (mup M k i.toNatClampNeg x) := zws_set hk rfl
  have hP2 : va_P g.2.1 vwCl ((zws g M).set k (g.2.2.2.1 k, .inl (g.2.2.1.1, n, .inl (upd (M k) i.toNatClampNeg x)))) H1 := hP1
  have hD2 : va_D (zA g sz) ((zws g M).set k (g.2.2.2.1 k, .inl (g.2.2.1.1, n, .inl (upd (M k) i.toNatClampNeg x)))) := hD1
  rw [he] at hP2 hD2
  exact h p e s m args below meth c H1 locs1 ls sz C hP2 hD2 hS1 hL
theorem zg_zast {k n : Nat} {i x : Int32} (d : decode μ.2.1 pc = .ok (.bastore, 1)) (hk : g.2.2.2.2[k]? = some (.inr (true, n))) (hi : vp_in i n) {v : Int32} (hv : vp_nar .boolean x = v) (h : Zg g μ mc ms ce sl B (pc + 1) L S (mup M k i.toNatClampNeg v)) : Zg g μ mc ms ce sl B pc L (.inl x :: .inl i :: .inr k :: S) M := by
  subst hv
  intro p e s m args below meth c H locs ls sz C hP hD hS hL
  refine va_zast C.1 C.2.1 C.2.2.2.2.2.2.2.2.1.1 hP hD hS k 1 (zws_at hk) rfl hi d (fun H1 locs1 hP1 hD1 hS1 => ?_)
  have he : (zws g M).set k (g.2.2.2.1 k, .inl (g.2.2.1.2.1, n, .inl (upd (M k) i.toNatClampNeg (vp_nar .boolean x)))) = zws g (mup M k i.toNatClampNeg (vp_nar .boolean x)) := zws_set hk rfl
  have hP2 : va_P g.2.1 vwCl ((zws g M).set k (g.2.2.2.1 k, .inl (g.2.2.1.2.1, n, .inl (upd (M k) i.toNatClampNeg (vp_nar .boolean x))))) H1 := hP1
  have hD2 : va_D (zA g sz) ((zws g M).set k (g.2.2.2.1 k, .inl (g.2.2.1.2.1, n, .inl (upd (M k) i.toNatClampNeg (vp_nar .boolean x))))) := hD1
  rw [he] at hP2 hD2
  exact h p e s m args below meth c H1 locs1 ls sz C hP2 hD2 hS1 hL
theorem zg_alen {k n : Nat} {b : Bool} {v : Int32} (d : decode μ.2.1 pc = .ok (.arraylength, 1)) (hk : g.2.2.2.2[k]? = some (.inr ((b : Bool), n))) (hv : Int32.ofNat n = v) (h : Zg g μ mc ms ce sl B (pc + 1) L (.inl v :: S) M) : Zg g μ mc ms ce sl B pc L (.inr k :: S) M := by
  intro p e s m args below meth c H locs ls sz C hP hD hS hL
  have hh := h p e s m args below meth c H locs ls sz C hP hD hS hL
  cases b with
  | false => exact va_alen C.1 C.2.1 C.2.2.2.2.2.2.2.2.1.1 hP k 0 (zws_at hk) (ty := .int) rfl hv d hh
  | true => exact va_alen C.1 C.2.1 C.2.2.2.2.2.2.2.2.1.1 hP k 1 (zws_at hk) (ty := .boolean) rfl hv d hh
-- the end of a method
theorem zg_iret {v : Int32} {ty : FieldType} (d : decode μ.2.1 pc = .ok (.ireturn, 1)) (hr : μ.2.2.2.1 = some ty) (hn : narrow ty (.int v) = .int v) (hc : ce ≤ mc ∧ sl ≤ ms) (hB : B = (.inl (some v), M)) : Zg g μ mc ms ce sl B pc L [.inl v] M := by
  intro p e s m args below meth c H locs ls sz C hP hD hS hL
  refine W.widen (k := mc) (n := ms) hc.1 hc.2 (vx_ret ?_)
  exact W.zret (v := v) C.1 C.2.1 (C.2.2.1.trans hr) hn (fun t ht hW => ⟨⟨some v, M, hB, rfl, by rw [ht]; exact hP⟩, hS.F ht⟩) hS.2.2 d C.2.2.2.2.2.2.1
theorem zg_vret (d : decode μ.2.1 pc = .ok (.return_, 1)) (hr : μ.2.2.2.1 = none) (hc : ce ≤ mc ∧ sl ≤ ms) (hB : B = (.inl none, M)) : Zg g μ mc ms ce sl B pc L [] M := by
  intro p e s m args below meth c H locs ls sz C hP hD hS hL
  refine W.widen (k := mc) (n := ms) hc.1 hc.2 (vx_ret ?_)
  exact W.vret C.1 C.2.1 (C.2.2.1.trans hr) (fun t ht hW => ⟨⟨none, M, hB, rfl, by rw [ht]; exact hP⟩, hS.F ht⟩) hS.2.2 d C.2.2.2.2.2.2.1
/-- from the entry -/
theorem Zc.of {args : List SV} (hy : plainName μ.1.cls = true) (hin : Cond.code μ.1 μ.2.1 μ.2.2.1 μ.2.2.2.1 ∈ zTB) (hn : args.length ≤ μ.2.2.1) (hL : args.map some ++ List.replicate (μ.2.2.1 - args.length) none = L) (h : Zg g μ mc ms 0 0 B 0 L [] M) : Zc g μ mc ms args M B := by
  subst hL
  intro sz
  refine vx_ofW (cc := μ.2.1) (maxL := μ.2.2.1) (ret := μ.2.2.2.1) hy rfl ?_
  intro p e s m args' below meth c s₁ Bd hml ht hv
  obtain ⟨rfl, hsz, hP, hD, hK, hE⟩ := hv
  have hts := atoms_spec (ws := zwm μ) Bd.pre
  have hl := zL_entry g args (n := μ.2.2.1) hn
  rw [lg_entry_eq]
  generalize (lg_sl (args.map (zv g)) ++ List.replicate (μ.2.2.1 - (lg_sl (args.map (zv g))).length) Slot.unset).toArray = ls at hl ⊢
  exact h p e s m _ below meth c s.heap [] ls sz ⟨Bd.exec, Bd.bytes, Bd.returns, hml, findClass_of_methodNamed Bd.named, fun w hw => hts w (List.mem_cons_of_mem _ hw), Bd.notSynchronized, ht, hK, hsz, hE, hin⟩ hP (zD_self hD) va_S.rf hl
end ZGR
end
section
/-! ===== A THROW OF NoSuchElementException: its constructor of a text passes on by the entry 13 (the kit's vx_throwS knows the entry 7 alone); the walks follow vx_throwS and the library's ctorThrowS, with this chain of constructors ===== -/
def zN_X : String := "java/util/NoSuchElementException"
def zN_by : ByteArray := ⟨#[0x2a, 0x2b, 0xb7, 0x00, 0x0d, 0xb1]⟩
theorem zN_0 : decode zN_by 0 = .ok (.aload_n 0, 1) := by decide +kernel
theorem zN_1 : decode zN_by 1 = .ok (.aload_n 1, 1) := by decide +kernel
theorem zN_2 : decode zN_by 2 = .ok (.invokespecial 13, 3) := by decide +kernel
theorem zN_5 : decode zN_by 5 = .ok (.return_, 1) := by decide +kernel
/-- the words of this throw, those of its chain of constructors among them -/
def zN_at : List Cond := Bundle.throwableAtoms ++ Bundle.throwableSAtoms ++ Bundle.passSAtoms zN_X "java/lang/RuntimeException" 13 zN_by ++ Bundle.chainSAtoms "java/lang/RuntimeException" ["java/lang/Exception"] ++
  [.methodLink RX4 114 (Bundle.initS zN_X), .instantiable zN_X 6, .castable zN_X zN_X, .selects zN_X Bundle.tFill0 Bundle.tFill0, .selects zN_X Bundle.tFill Bundle.tFill,
   .lays zN_X Bundle.tN "cause" "Ljava/lang/Throwable;", .lays zN_X Bundle.tN "stackTrace" Bundle.steD, .lays zN_X Bundle.tN "suppressedExceptions" Bundle.listD, .lays zN_X Bundle.tN "detailMessage" "Ljava/lang/String;",
   .isRef (.static Bundle.tN "UNASSIGNED_STACK" Bundle.steD), .isRef (.static Bundle.tN "SUPPRESSED_SENTINEL" Bundle.listD),
   .fieldLink Bundle.tN 198 Bundle.tN "backtrace" "Ljava/lang/Object;", .lays Bundle.tN Bundle.tN "backtrace" "Ljava/lang/Object;", .lays zN_X Bundle.tN "backtrace" "Ljava/lang/Object;"]
section ZNT
variable {p : Program} {l : Launch} {e : Env} {R : Room} {s : State} {m₀ : MethodId} {args : Array Value} {below : List Frame} {meth : Method} {c : Code} {W : State} {locs : List Loc} {cells slots : Nat}
set_option maxHeartbeats 4000000 in
theorem zN_ctor (X : Stand p l e R s m₀ args below meth c W locs cells slots) (hexec : p.tables.exec = Jvm.exec) (htr : e.platform.stackTraces = false)
    (hown : s.vm.findClass RX4 = some m₀.cls) (h : ∀ a ∈ zN_at, a.before args s = true) (hlocs : ∀ x ∈ locs, ∀ cell, s.heap[x.base]? = some cell → cell.vm.isStatics = false)
    {a : Addr} {cX : ClassId} {kX : Class} (hfoundX : s.vm.findClass zN_X = some cX) (hkX : s.vm.classes[cX]? = some kX) (hcell : W.heap[a]? = some (freshCell cX kX)) (hnew : s.heap.size ≤ a)
    {msg : Value} (hmsg : msg.isRef = true)
    {g : JFrame} (hg : g.method = m₀) (hsize : g.locals.size = c.maxLocals) (hlocked : g.locked = none) (hentered : g.entered = []) {rest : List Value} (hstack : g.stack = msg :: .ref a :: .ref a :: rest)
    (hd6 : decode c.code g.pc = .ok (.invokespecial 114, 3)) (hd9 : decode c.code (g.pc + 3) = .ok (.athrow, 1)) (hout : ∀ x ∈ c.exceptionTable.toList, covers x (g.pc + 3) = false)
    (hRframes : 5 < R.frames) (hRlocals : 2 * g.monitorRoom + ((Value.ref a :: rest).map fun v => v.category).sum + 81 ≤ R.locals) (hlocks : meth.locks = false) :
    ∃ U : State, Steps p.tables e below (W.setTop g) U ∧ U.status = .running ∧ Ended U below (.threw a) ∧ s.WarmedH U.vm ∧ s.sameButNew ({ U with vm := s.vm } : State) locs cells slots ∧
      ∃ ce, U.heap[a]? = some ce ∧ s.vm.findClass zN_X = some ce.cls ∧ ce.vm = .none := by
  have howns : e.platform.frameOwnsMonitors = true := by rw [X.admits.platform]
  have hfin : e.platform.finalization = false := by rw [X.admits.platform]
  have hpl : e.platform.magicAccessors = ({} : Platform).magicAccessors := by rw [X.admits.platform]
  have a' : ∀ x, x ∈ zN_at → x.holds args s none s [] = true := fun x hx => h x hx
  obtain ⟨T, Z0, L, -, Y⟩ := ThrowableC.of_atoms (args := args) howns hfin hpl (fun x hx => h x (by simp [zN_at, hx]))
  obtain ⟨Z, M, LZ, LM, hnZ⟩ := Init0T.ofS_atoms (args := args) hpl L Y (fun x hx => h x (by simp [zN_at, hx]))
  obtain ⟨P1, L1, hP1m, hP1s⟩ := PassC.ofS_atoms (args := args) (s := s) hpl (X := zN_X) (Y := "java/lang/RuntimeException") (by decide) (by decide) zN_0 zN_1 zN_2 zN_5 (fun x hx => h x (by simp [zN_at, hx]))
  obtain ⟨P2, Ps, hlen, L2, hL2, hP2m, hsup, hpass⟩ := Bundle.chainS (args := args) hpl hnZ ["java/lang/Exception"] "java/lang/RuntimeException" (by decide) (by decide) (fun x hx => h x (by simp [zN_at, hx]))
  have hlink1 := Option.some.inj (hP1s.symm.trans hP2m)
  have hL : ∀ P, P ∈ P2 :: Ps → P.LinksS e.platform s := fun P hP => by
    rcases List.mem_cons.mp hP with rfl | hP
    · exact L2
    · exact hL2 P hP
  have hfound : s.vm.findClass zN_X = some P1.m.cls := findClass_of_methodNamed hP1m
  cases Option.some.inj (hfoundX.symm.trans hfound)
  obtain ⟨c1, kX', hc1, hk, hord, -, -, hn6⟩ := Cond.instantiable_spec (a' (.instantiable zN_X 6) (by simp [zN_at]))
  cases Option.some.inj (hc1.symm.trans hfound)
  cases Option.some.inj (hkX.symm.trans hk)
  have hsel0 : selectMethod e.platform s.vm P1.m.cls T.fill0 = .method T.fill0 := by
    obtain ⟨c2, r2, m2, q1, q2, q3, q4, -⟩ := Cond.selects_spec (a' (.selects zN_X Bundle.tFill0 Bundle.tFill0) (by simp [zN_at]))
    cases Option.some.inj (q1.symm.trans hfound)
    cases Option.some.inj (q2.symm.trans (State.methodFound?_of_named Y.fill0 (by decide)))
    cases Option.some.inj (q3.symm.trans Y.fill0)
    rw [Launch.admits_selectMethod X.admits]; exact q4
  have hselF : selectMethod e.platform s.vm P1.m.cls T.fill = .method T.fill := by
    obtain ⟨c2, r2, m2, q1, q2, q3, q4, -⟩ := Cond.selects_spec (a' (.selects zN_X Bundle.tFill Bundle.tFill) (by simp [zN_at]))
    cases Option.some.inj (q1.symm.trans hfound)
    cases Option.some.inj (q2.symm.trans (State.methodFound?_of_named Y.fill (by decide)))
    cases Option.some.inj (q3.symm.trans Y.fill)
    rw [Launch.admits_selectMethod X.admits]; exact q4
  obtain ⟨cellS0, hcS0, hiss⟩ := Y.statics
  obtain ⟨u0, hu0⟩ := Cond.staticRefV Y.unassigned L.unassignedStatic L.statics hcS0 hiss (a' (.isRef (.static Bundle.tN "UNASSIGNED_STACK" Bundle.steD)) (by simp [zN_at]))
  obtain ⟨sen, hsen⟩ := Cond.staticRefV Y.sentinel L.sentinelStatic L.statics hcS0 hiss (a' (.isRef (.static Bundle.tN "SUPPRESSED_SENTINEL" Bundle.listD)) (by simp [zN_at]))
  obtain ⟨ci198, i198, fB, hk198, hg198, ha198, hsB, -, hnB, htB, hffB⟩ := Cond.ownField (t := .object "java/lang/Object") Y.found L.cls (by decide +kernel) (a' (.fieldLink Bundle.tN 198 Bundle.tN "backtrace" "Ljava/lang/Object;") (by simp [zN_at])) (a' (.lays Bundle.tN Bundle.tN "backtrace" "Ljava/lang/Object;") (by simp [zN_at])) e.platform hpl
  obtain ⟨cellS, hcS', heS, -, hkeep⟩ := X.same.2.2.2.2.2 T.aS cellS0 hcS0
  have hcellS : W.heap[T.aS]? = some cellS := hcS'
  have hout' : ∀ i, (⟨T.aS, i⟩ : Loc) ∉ locs := fun i hmem => by
    have := hlocs _ hmem cellS0 hcS0
    rw [hiss] at this; cases this
  have hknownS : cellS.vm ≠ .unknown := by
    rw [heS]; intro hu
    rw [show cellS0.vm = .unknown from hu] at hiss
    cases hiss
  have hneS : T.aS ≠ a := Nat.ne_of_lt (Nat.lt_of_lt_of_le (Array.getElem?_eq_some_iff.mp hcS0).1 hnew)
  obtain ⟨iM, hffM⟩ := Y.msg
  obtain ⟨tyC, dC, hdC, hdnC⟩ := Cond.laysAt hfound hk Y.cause (a' (.lays zN_X Bundle.tN "cause" "Ljava/lang/Throwable;") (by simp [zN_at]))
  obtain ⟨tyS, dS, hdS, hdnS⟩ := Cond.laysAt hfound hk Y.stack (a' (.lays zN_X Bundle.tN "stackTrace" Bundle.steD) (by simp [zN_at]))
  obtain ⟨tyP, dP, hdP, hdnP⟩ := Cond.laysAt hfound hk Y.supp (a' (.lays zN_X Bundle.tN "suppressedExceptions" Bundle.listD) (by simp [zN_at]))
  obtain ⟨tyM, dM, hdM, hdnM⟩ := Cond.laysAt hfound hk hffM (a' (.lays zN_X Bundle.tN "detailMessage" "Ljava/lang/String;") (by simp [zN_at]))
  obtain ⟨tyB, dB, hdB, hdnB⟩ := Cond.laysAt hfound hk hffB (a' (.lays zN_X Bundle.tN "backtrace" "Ljava/lang/Object;") (by simp [zN_at]))
  have bC := Cond.laysApart hdB hdC hdnB hdnC (by rw [hnB, Y.causeName]; decide)
  have bS := Cond.laysApart hdB hdS hdnB hdnS (by rw [hnB, Y.stackName]; decide)
  have bP := Cond.laysApart hdB hdP hdnB hdnP (by rw [hnB, Y.suppName]; decide)
  have hskip : SkipFacts T e.platform s (fun u => u) u0 ((preparedCellV T.toThrowableT (freshCell P1.m.cls kX) a u0 sen).withEntry W.cur) :=
    ⟨{ ci198 := ci198, i198 := i198, fBack := fB }, ⟨hk198, hg198, ha198, hsB⟩, by
      have := fresh_default (c := P1.m.cls) tyB
      rw [htB] at this
      simpa [preparedCellV, Cell.setSlot, Cell.withEntry, Array.getElem?_setIfInBounds, bC, bS, bP, bC.symm, bS.symm, bP.symm, defaultValue] using this, fun _ _ => rfl⟩
  obtain ⟨tm, methC, cdC, kC, vm₁, hnC, -, -, -, -, -, -, -, hW₁, st1⟩ := Steps.initColdS (tb := p.tables) (e := e) (below := below) (s := s) (U := W) X.here hexec X.warmed hpl hown (t := Bundle.initS zN_X) rfl rfl ⟨by decide, by decide⟩
    (a' (.methodLink RX4 114 (Bundle.initS zN_X)) (by simp [zN_at])) (h (.instanceMethod (Bundle.initS zN_X)) (by simp [zN_at, Bundle.passSAtoms])) (bytes := zN_by) (maxL := 2) (h (.code (Bundle.initS zN_X) zN_by 2 none) (by simp [zN_at, Bundle.passSAtoms]))
    (f := g) hg (a := a) (msg := msg) (rest := .ref a :: rest) hstack hd6
  cases Option.some.inj (hnC.symm.trans hP1m)
  have X₁ := X.noted hW₁
  obtain ⟨vm₂, X₂, st2⟩ := X₁.ctorMessageOffV hexec (g := { g with stack := .ref a :: rest }) hg hsize T L Z LZ M LM (P1 :: P2 :: Ps)
    (fun P hP => by rcases List.mem_cons.mp hP with rfl | hP; exact L1; exact hL P hP) ⟨hlink1, hsup, hpass⟩ (u0 := u0) (sen := sen) (self := a) hmsg (cell := freshCell P1.m.cls kX) (cellS := cellS)
    hcell (fun _ => by simp) (by simp) rfl rfl hsel0 hselF hcellS hneS hknownS (by rw [hkeep _ (hout' _)]; exact hu0) (by rw [hkeep _ (hout' _)]; exact hsen)
    (Takes.of_laid hk hord tyC (by rw [Y.causeType]; rfl)) (Takes.of_laid hk hord tyS (by rw [Y.stackType]; exact fits_refV_array _ u0)) (Takes.of_laid hk hord tyP (by rw [Y.suppType]; exact fits_refV_object _ sen))
    (Takes.of_laid hk hord tyM (by rw [Y.msgType]; exact fits_refV_object _ ⟨msg, hmsg⟩)) Y.objLocals hskip htr [] hd6
    (by simp only [List.length_cons, hlen, List.length_nil]; omega) (by simp only [List.length_cons, hlen, List.length_nil]; exact hRlocals)
  obtain ⟨hwalk, hrun, hended, hWU, hsame⟩ := X₂.athrowLeaves hexec (g := { g with stack := .ref a :: rest, pc := g.pc + 3 }) hg hlocked hentered hout (a := a) (rest := rest) rfl hd9
  obtain ⟨c3, c4, hc3, hc4, hasg⟩ := Cond.castable_spec (a' (.castable zN_X zN_X) (by simp [zN_at]))
  cases Option.some.inj (hc3.symm.trans hfound)
  cases Option.some.inj (hc4.symm.trans hfound)
  have hlt : a < ((W.setVm vm₁).setVm vm₂).heap.size := (Array.getElem?_eq_some_iff.mp hcell).1
  have hU := heapAt_setCell_self (s := (W.setVm vm₁).setVm vm₂) (plainBareV T.toThrowableT (freshCell P1.m.cls kX) a u0 sen msg) hlt
  refine ⟨_, st1 _ (fun acts => ?_), hrun, hended, hWU, hsame.weaken (fun y hy hlt' => ?_) (Nat.le_refl _) (Nat.le_refl _), _, hU, ?_⟩
  · rw [doInvoke_state]
    exact st2 _ hwalk
  · rcases List.mem_append.mp hy with h1 | h1
    · exact h1
    · exfalso
      have hb : y.base = a := by
        simp only [List.mem_cons, List.not_mem_nil, or_false] at h1
        rcases h1 with rfl | rfl | rfl | rfl | rfl <;> rfl
      rw [hb] at hlt'
      exact Nat.not_lt.mpr hnew hlt'
  · exact ⟨hfound, rfl⟩
end ZNT
section ZNE
variable {p : Program} {l : Launch} {e : Env} {R : Room} {s : State} {m : MethodId} {args : Array Value} {below : List Frame} {meth : Method} {c : Code} {H : Heap} {locs : List Loc} {cells slots : Nat} {Q : State → Prop}
variable {mc ms : Nat} {free : Addr → Prop} {A0 A1 : Nat → Prop} {H0 : Heap} {a : Array Value} {ls : Array Slot} {st0 rest : List Value}
variable {Qc : Array Value → State → Outcome → State → Prop} {XC : String → State → State → Prop}
set_option maxHeartbeats 4000000 in
theorem zN_throw {cc : ByteArray} {pc : Nat} (hexec : p.tables.exec = Jvm.exec) (hb : c.code = cc) (hl : l.stackTraces = false) {text : String} {is mc ms sa : Nat} {A : Nat → Prop}
    (hown : s.vm.findClass RX4 = some m.cls)
    (hk : (Cond.classLink RX4 110 zN_X).before args s = true) (hini : (Cond.initialized zN_X).before args s = true) (hstr : vk_R RX4 is text sa s) (hat : ∀ w ∈ zN_at.filter vx_no, w.before args s = true)
    (hgood : ∀ w ∈ Cond.classLink RX4 110 zN_X :: Cond.initialized zN_X :: zN_at.filter vx_no, vx_ot w = true)
    (hU : vx_Zq Bundle.tN "UNASSIGNED_STACK" Bundle.steD A s s.heap) (hN : vx_Zq Bundle.tN "SUPPRESSED_SENTINEL" Bundle.listD A s s.heap) (hS : va_S A s.heap H locs) (hsize : ls.size = c.maxLocals)
    (d0 : decode cc pc = .ok (.new 110, 3)) (d3 : decode cc (pc + 3) = .ok (.dup, 1)) (d4 : decode cc (pc + 4) = .ok (.ldc is, 2)) (d6 : decode cc (pc + 6) = .ok (.invokespecial 114, 3)) (d9 : decode cc (pc + 9) = .ok (.athrow, 1))
    (hout : ∀ x ∈ c.exceptionTable.toList, covers x (pc + 9) = false)
    (hRframes : 5 < R.frames) (hRlocals : (rest.map fun v => v.category).sum + 82 ≤ R.locals) (hRcells : cells + 1 ≤ R.cells) (hRslots : slots + 6 ≤ R.slots) (hlocks : meth.locks = false)
    (hx : ∀ t : State, s.vm.Alike t.vm → H.size ≤ t.heap.size → (∀ q : Nat, q < H.size → t.heap[q]? = H[q]?) → XC zN_X s t)
    (hf : ∀ z ∈ locs, free z.base) (hc : cells + 1 ≤ mc) (hs : slots + 6 ≤ ms) :
    W p l e R s m args below meth c H locs cells slots (vx_MQ below Qc XC args s mc ms free) (F0 m pc ls rest) := by
  intro T hT X
  have htr : e.platform.stackTraces = false := (show e.platform.stackTraces = l.stackTraces by rw [X.admits.platform]).trans hl
  have Y := vx_rebase X (R' := { frames := R.frames, locals := R.locals, cells := 1, slots := 6 }) (Nat.le_refl _) (Nat.le_refl _) hRcells hRslots
  obtain ⟨s', hA⟩ : ∃ z, z = (T.setVm s.vm).setFrames (.invoking m args :: below) := ⟨_, rfl⟩
  rw [← hA] at Y
  have hvm : s'.vm = s.vm := by rw [hA]; rfl
  have hhp : s'.heap = H := by rw [hA]; exact hT
  have hW0 : s.WarmedH s'.vm := by rw [hvm]; exact State.WarmedH.refl s
  have hat' : ∀ w ∈ zN_at.filter vx_no, w.before args s' = true := fun w hw => vx_ot_at hW0 hvm.symm (hgood w (List.mem_cons_of_mem _ (List.mem_cons_of_mem _ hw))) (hat w hw)
  have hk' : (Cond.classLink RX4 110 zN_X).before args s' = true := vx_ot_at hW0 hvm.symm (hgood _ List.mem_cons_self) hk
  have hini' : (Cond.initialized zN_X).before args s' = true := vx_ot_at hW0 hvm.symm (hgood _ (List.mem_cons_of_mem _ List.mem_cons_self)) hini
  have hU' : vx_Zq Bundle.tN "UNASSIGNED_STACK" Bundle.steD A s' s'.heap := by rw [hhp]; exact vx_Zq.moved hW0.alike (hU.kept hS.2.1)
  have hN' : vx_Zq Bundle.tN "SUPPRESSED_SENTINEL" Bundle.listD A s' s'.heap := by rw [hhp]; exact vx_Zq.moved hW0.alike (hN.kept hS.2.1)
  have h : ∀ w ∈ zN_at, w.before args s' = true := vx_own hat' (vx_isRefq hU'.1) (vx_isRefq hN'.1) hU'.2.word hN'.2.word
  have hown' : s'.vm.findClass RX4 = some m.cls := by rw [hvm]; exact hown
  have hins : (Cond.instantiable zN_X 6).before args s' = true := h _ (by simp [zN_at])
  obtain ⟨vm₁, cX, kX, hfX, hkX, -, -, X₁, st1⟩ := Y.newCold hexec (own := RX4) (C := zN_X) (index := 110) (n := 6) hown' hk' hins hini'
    (g := F0 m pc ls rest) rfl (by rw [hb]; exact d0) (Nat.le_refl _) (Nat.le_refl _)
  generalize hT1 : (T.setVm vm₁).pushCell { cls := cX, slots := kX.instanceTypes.map defaultValue, vm := .none } = T1 at X₁ st1
  have hcat : (Value.ref T.heap.size).category = 1 := rfl
  have hcellA : T1.heap[T.heap.size]? = some (freshCell cX kX) := by rw [← hT1]; exact State.heap_pushCell_size _ _
  have d3' : decode c.code (pc + 3) = .ok (.dup, 1) := by rw [hb]; exact d3
  have d4' : decode c.code (pc + 4) = .ok (.ldc is, 2) := by rw [hb]; exact d4
  have hstr' : vk_R RX4 is text sa s' := vk_R.warm hW0 hstr
  obtain ⟨U, hsteps, hrun, hend, hW, hsame, ce, hce, hO⟩ := zN_ctor X₁ hexec htr hown' h (fun x hx => nomatch hx) hfX hkX hcellA (by rw [hhp, hT]; exact Nat.le_refl _) (msg := .ref sa) rfl
    (g := { method := m, pc := pc + 6, locals := ls, stack := .ref sa :: .ref T.heap.size :: .ref T.heap.size :: rest, locked := none }) rfl hsize rfl rfl (rest := rest) rfl
    (by rw [hb]; exact d6) (by rw [hb]; exact d9) hout hRframes (by simp only [List.map_cons, List.sum_cons, hcat]; omega) hlocks
  obtain ⟨f1, f2⟩ := vx_frame hsame
  rw [hhp] at f1 f2
  have hWs : s.WarmedH U.vm := State.WarmedH.trans hW0 hW
  have hcl : s.vm.findClass zN_X = some ce.cls := by
    have h9 := hO.1
    rw [hvm] at h9
    exact h9
  have hall : s.sameButNew ({ U with vm := s.vm } : State) locs mc ms := by
    subst hA
    obtain ⟨e1, e2⟩ := hsame
    rw [State.setFrames_setFrames] at e1
    have h2 : (T.setVm s.vm).sameButNew ({ U with vm := s.vm } : State) [] (0 + 1) (0 + 6) := ⟨e1, e2⟩
    have h3 := X.same.trans h2
    rw [List.append_nil] at h3
    exact h3.mono hc hs
  refine ⟨U, ?_, .threw T.heap.size, hrun, hend, Or.inr ⟨T.heap.size, rfl, zN_X, ce, locs, hx U hWs.alike f1 (fun q hq => f2 q hq (fun z hz => nomatch hz)), hce, hO.2, hcl, hWs, hall, hf⟩⟩
  refine st1 _ ?_
  show Steps p.tables e below (T1.setTop { method := m, pc := pc + 3, locals := ls, stack := .ref T.heap.size :: rest, locked := none }) _
  jvm_step X₁.here [X₁.here.top, hexec, d3', Value.category]
  exact X₁.ldcString hexec (own := RX4) (text := text) (index := is) (a := sa) hown' hstr'.1 hstr'.2
    (g := { method := m, pc := pc + 4, locals := ls, stack := .ref T.heap.size :: .ref T.heap.size :: rest, locked := none }) rfl d4' _ hsteps
end ZNE
end
section
/-! ===== CALLS AND THROWS ===== -/
def zin (μ : MI) (n : Nat) : Prop := Cond.code μ.1 μ.2.1 μ.2.2.1 μ.2.2.2.1 ∈ zTB ∧ Cond.initialized μ.1.cls ∈ zTB ∧ (μ.1.cls ≠ "java/lang/invoke/MethodHandle" ∧ μ.1.cls ≠ "java/lang/invoke/VarHandle") ∧ (parseMethodDescriptor μ.1.desc).map (fun d => d.parameters.length) = some n
def zfit (μ ν : MI) : Prop := ν.2.2.2.2.1 + 1 ≤ μ.2.2.2.2.1 ∧ 8 + (ν.2.2.1 + 11) + ν.2.2.2.2.2 ≤ μ.2.2.2.2.2
theorem zsum (g : ZG) (S : List SV) : ((S.map (zv g)).map fun v => v.category).sum = S.length := by
  induction S with
  | nil => rfl
  | cons v r ih => simp only [List.map_cons, List.sum_cons, zcat, List.length_cons] at ih ⊢; omega
theorem zrev (g : ZG) (As S : List SV) : (As.reverse ++ S).map (zv g) = (As.map (zv g)).reverse ++ S.map (zv g) := by simp
section ZGC
variable {g : ZG} {μ ν : MI} {mc ms ce sl mc' ms' : Nat} {B B' : ZR} {pc : Nat} {L : List (Option SV)} {S S0 As : List SV} {M : Mem}
theorem zg_pre {s : State} {H : Heap} {locs : List Loc} {sz : Nat} (hK : zK g s) (hsz : s.heap.size = sz) (hE : zE (zA g sz) s s.heap) (hP : va_P g.2.1 vwCl (zws g M) H) (hD : va_D (zA g sz) (zws g M)) (hS : va_S (zA g sz) s.heap H locs) (av : List Value) :
    FrameBlind (va_Pc av (zPre g M H.size)) ∧ ∀ U : State, U.heap = H → s.WarmedH U.vm → va_Pc av (zPre g M H.size) av.toArray U := by
  refine ⟨fun a U gf mk q => ⟨q.1, q.2.1, q.2.2.1, q.2.2.2.1, zK.same (s := U) (U := U.calling gf mk a) rfl q.2.2.2.2.1, zE.warm (s := U) (U := U.calling gf mk a) (State.WarmedH.refl U) q.2.2.2.2.2⟩, fun U hU hW => ⟨rfl, by rw [hU], by rw [hU]; exact hP, ⟨hD.1, fun _ _ _ => trivial⟩, zK.warm hW hK, ?_⟩⟩
  have h1 : zE (zA g sz) s H := hE.kept hS.2.1
  have h2 : zE (zA g H.size) s H := h1.narrow (zA_mono (by rw [← hsz]; exact hS.1))
  rw [hU]
  exact zE.warm hW h2
theorem zg_after {p : Program} {e : Env} {s : State} {m : MethodId} {args : Array Value} {below : List Frame} {meth : Method} {c : Code} {H : Heap} {locs : List Loc} {ls : Array Slot} {sz : Nat} {st0 : List Value} {a : Array Value}
    (C : zCx g μ p s m args meth c sz) (hD : va_D (zA g sz) (zws g M)) (hS : va_S (zA g sz) s.heap H locs) (hL : zL g ls μ.2.2.1 L)
    (hr : vx_Run p g.1 e (zRm μ mc ms) s m args below meth c H locs ce sl mc' ms' (F0 m pc ls st0) (S.map (zv g)) (zQ g (zA g H.size) B' a) (zX g (zA g H.size) B') (zA g H.size))
    (hc : ce + mc' ≤ mc ∧ sl + ms' ≤ ms) (kx : ∀ (E : String) (N : Mem), B' = (.inr E, N) → B = (.inr E, N))
    (kk : ∀ (r : Option Int32) (N : Mem), B' = (.inl r, N) → Zg g μ mc ms (ce + mc') (sl + ms') B (pc + 3) L (r.toList.map Sum.inl ++ S) N) :
    W p g.1 e (zRm μ mc ms) s m args below meth c H locs ce sl (vx_MQ below (zQ g (zA g sz) B) (zX g (zA g sz) B) args s mc ms (zA g sz)) (F0 m pc ls st0) := by
  intro T hT X
  have hA : ∀ q, zA g H.size q → zA g sz q := zA_mono (by rw [← C.2.2.2.2.2.2.2.2.2.1]; exact hS.1)
  rcases hr T hT X with ⟨v, st₀, t, T', L', h0, X', hL', e1, e2, ⟨⟨r, N, hB, hv, hP1⟩, hF⟩, st⟩ | ⟨q, st₀, t, T', L', E, ce', h0, X', hL', e1, e2, ⟨⟨N, hB, hP1⟩, hF⟩, hce, hcv, hcl, st⟩
  · cases hv
    obtain ⟨k1, k2, k3⟩ := vx_keep h0 e1 hS (fun q _ h => hA q h) hA hL' hF
    have hP2 : va_P g.2.1 vwCl (zws g N) T'.heap := by rw [e1]; exact hP1
    obtain ⟨t2, a1, b1⟩ := kk r N hB p e s m args below meth c T'.heap (locs ++ L') ls sz C hP2 (zD_any hD) k3 hL T' rfl X'
    refine ⟨t2, st t2 ?_, b1⟩
    cases r <;> exact a1
  · obtain ⟨k1, k2, k3⟩ := vx_keep h0 e1 hS (fun q _ h => hA q h) hA hL' hF
    have hP2 : va_P g.2.1 vwCl (zws g N) T'.heap := by rw [e1]; exact hP1
    have ho : vx_W p g.1 e (zRm μ mc ms) s m args below meth c T'.heap (locs ++ L') (ce + mc') (sl + ms') (vx_MQ below (zQ g (zA g sz) B) (zX g (zA g sz) B) args s mc ms (zA g sz)) (F0 m pc ls (S.map (zv g))) q :=
      vx_out (ce := ce') (E := E) (fun x hx => (C.2.2.2.2.2.2.2.1 x hx).elim) C.2.2.2.2.2.2.1 (by rw [e1]; exact hce) hcv hcl (fun t' ht' _ => ⟨⟨N, kx E N hB, by rw [ht']; exact hP2⟩, va_S.F k3 ht'⟩) k3.2.2 hc.1 hc.2
    obtain ⟨t2, a1, b1⟩ := ho T' rfl X'
    exact ⟨t2, st.trans a1, b1⟩
theorem zg_fix {p : Program} {s : State} {m : MethodId} {args : Array Value} {meth : Method} {c : Code} {sz : Nat} (C : zCx g μ p s m args meth c sz) : CallFix p m c μ.2.1 μ.2.2.1 s args zTB μ.1.cls := ⟨C.1, C.2.1, C.2.2.2.1, C.2.2.2.2.1, C.2.2.2.2.2.1⟩
theorem zg_pay {p : Program} {s : State} {m : MethodId} {args : Array Value} {meth : Method} {c : Code} {sz n : Nat} (C : zCx g μ p s m args meth c sz) (hi : zin ν n) : ∀ w ∈ zwm ν, ∀ (a' : Array Value) (U : State), s.WarmedH U.vm → w.before a' U = true :=
  pay_in C.2.2.2.2.2.1 (fun w hw => (List.mem_cons.mp hw).elim (fun e => by rw [e]; exact zTB_good _ hi.1) (fun h => zTB_good w h))
theorem zg_lenOf {n : Nat} {y : MethodName} (h : (parseMethodDescriptor y.desc).map (fun d => d.parameters.length) = some n) : ∀ sig, parseMethodDescriptor y.desc = some sig → n = sig.parameters.length := by
  intro sig hs
  rw [hs] at h
  exact (Option.some.inj h).symm
theorem zg_callB {p : Program} {s : State} {m : MethodId} {args : Array Value} {meth : Method} {c : Code} {sz n idx : Nat} (C : zCx g μ p s m args meth c sz) (hi : zin ν n) (hf : zfit μ ν) (hl : Cond.methodLink μ.1.cls idx ν.1 ∈ zTB) :
    CallB (zRm μ mc ms) s args μ.1.cls idx ν.1 ν.2.1 ν.2.2.1 ν.2.2.2.1 (zwm ν) (zRm ν mc' ms') mc' ms' n :=
  ⟨rfl, rfl, hf.1, hf.2, zg_pay C hi, List.mem_cons_self, C.2.2.2.2.2.1 _ hi.1, C.2.2.2.2.2.1 _ hi.2.1, hi.2.2.1, zg_lenOf hi.2.2.2, C.2.2.2.2.2.1 _ hl⟩
theorem zg_callN {p : Program} {s : State} {m : MethodId} {args : Array Value} {meth : Method} {c : Code} {sz n idx : Nat} {host : String} (C : zCx g μ p s m args meth c sz) (hi : zin ν n) (hf : zfit μ ν) (hl : Cond.methodLinkNest μ.1.cls idx ν.1 host ∈ zNW) :
    va_CN (zRm μ mc ms) s args μ.1.cls idx ν.1 host ν.2.1 ν.2.2.1 ν.2.2.2.1 (zwm ν) (zRm ν mc' ms') mc' ms' n :=
  ⟨⟨rfl, rfl, hf.1, hf.2, zg_pay C hi, List.mem_cons_self⟩, C.2.2.2.2.2.1 _ hi.1, C.2.2.2.2.2.1 _ hi.2.1, hi.2.2.1, zg_lenOf hi.2.2.2, va_Nw.use rfl (C.2.2.2.2.2.2.2.2.1.2.1 _ hl)⟩
theorem zg_callS {n idx : Nat} (d : decode μ.2.1 pc = .ok (.invokestatic idx, 3)) (hm : Zc g ν mc' ms' As M B') (hl : Cond.methodLink μ.1.cls idx ν.1 ∈ zTB) (hs : Cond.static ν.1 ∈ zTB) (hi : zin ν n) (hn : As.length = n) (hf : zfit μ ν) (hc : ce + mc' ≤ mc ∧ sl + ms' ≤ ms) (hS0 : As.reverse ++ S = S0) (hw : S.length ≤ 8)
    (kx : ∀ (E : String) (N : Mem), B' = (.inr E, N) → B = (.inr E, N)) (kk : ∀ (r : Option Int32) (N : Mem), B' = (.inl r, N) → Zg g μ mc ms (ce + mc') (sl + ms') B (pc + 3) L (r.toList.map Sum.inl ++ S) N) : Zg g μ mc ms ce sl B pc L S0 M := by
  subst hS0
  intro p e s m args below meth c H locs ls sz C hP hD hS hL
  have hq := zg_pre C.2.2.2.2.2.2.2.2.1 C.2.2.2.2.2.2.2.2.2.1 C.2.2.2.2.2.2.2.2.2.2.1 hP hD hS (As.map (zv g))
  exact zg_after C hD hS hL (vx_runS (As := As.map (zv g)) (rest := S.map (zv g)) (zg_fix C) (hm H.size) ⟨zg_callB C hi hf hl, C.2.2.2.2.2.1 _ hs⟩ hq rfl (by simpa using hn) hL.1 (zrev g As S) (by rw [zsum]; show 2 * 0 + _ ≤ 8; omega) d hc) hc kx kk
theorem zg_callSN {n idx : Nat} {host : String} (d : decode μ.2.1 pc = .ok (.invokestatic idx, 3)) (hm : Zc g ν mc' ms' As M B') (hl : Cond.methodLinkNest μ.1.cls idx ν.1 host ∈ zNW) (hs : Cond.static ν.1 ∈ zTB) (hi : zin ν n) (hn : As.length = n) (hf : zfit μ ν) (hc : ce + mc' ≤ mc ∧ sl + ms' ≤ ms) (hS0 : As.reverse ++ S = S0) (hw : S.length ≤ 8)
    (kx : ∀ (E : String) (N : Mem), B' = (.inr E, N) → B = (.inr E, N)) (kk : ∀ (r : Option Int32) (N : Mem), B' = (.inl r, N) → Zg g μ mc ms (ce + mc') (sl + ms') B (pc + 3) L (r.toList.map Sum.inl ++ S) N) : Zg g μ mc ms ce sl B pc L S0 M := by
  subst hS0
  intro p e s m args below meth c H locs ls sz C hP hD hS hL
  have hq := zg_pre C.2.2.2.2.2.2.2.2.1 C.2.2.2.2.2.2.2.2.2.1 C.2.2.2.2.2.2.2.2.2.2.1 hP hD hS (As.map (zv g))
  exact zg_after C hD hS hL (vx_runSN (As := As.map (zv g)) (rest := S.map (zv g)) (zg_fix C) (hm H.size) ⟨zg_callN C hi hf hl, C.2.2.2.2.2.1 _ hs, trivial⟩ hq rfl (by simpa using hn) hL.1 (zrev g As S) (by rw [zsum]; show 2 * 0 + _ ≤ 8; omega) d hc) hc kx kk
theorem zg_callV {n idx k ci : Nat} {fs : List (Option Nat)} {q : vw_C} (d : decode μ.2.1 pc = .ok (.invokevirtual idx, 3)) (hm : Zc g ν mc' ms' (.inr k :: As) M B') (hl : Cond.methodLink μ.1.cls idx ν.1 ∈ zTB) (hs : Cond.instanceMethod ν.1 ∈ zTB) (hse : Cond.selects q.1 ν.1 ν.1 ∈ zTB) (hk : g.2.2.2.2[k]? = some (.inl (ci, fs))) (hq0 : vwCl[ci]? = some q) (hi : zin ν n) (hn : As.length = n) (hf : zfit μ ν) (hc : ce + mc' ≤ mc ∧ sl + ms' ≤ ms) (hS0 : As.reverse ++ .inr k :: S = S0) (hw : S.length ≤ 8)
    (kx : ∀ (E : String) (N : Mem), B' = (.inr E, N) → B = (.inr E, N)) (kk : ∀ (r : Option Int32) (N : Mem), B' = (.inl r, N) → Zg g μ mc ms (ce + mc') (sl + ms') B (pc + 3) L (r.toList.map Sum.inl ++ S) N) : Zg g μ mc ms ce sl B pc L S0 M := by
  subst hS0
  intro p e s m args below meth c H locs ls sz C hP hD hS hL
  have hq := zg_pre C.2.2.2.2.2.2.2.2.1 C.2.2.2.2.2.2.2.2.2.1 C.2.2.2.2.2.2.2.2.2.2.1 hP hD hS ((.inr k :: As).map (zv g))
  exact zg_after C hD hS hL (vx_runV (C := q.1) (b := g.2.2.2.1 k) (As := As.map (zv g)) (rest := S.map (zv g)) (zg_fix C) (hm H.size) ⟨zg_callB C hi hf hl, C.2.2.2.2.2.1 _ hs, C.2.2.2.2.2.1 _ hse⟩ ⟨hq.1, va_recv C.2.2.2.2.2.2.2.2.1.1 hP hq0 (zws_at hk), hq.2⟩ rfl (by simpa using hn) hL.1 (by rw [zrev]; rfl) (by rw [zsum]; show 2 * 0 + _ ≤ 8; omega) d hc) hc kx kk
/-- what a throw of a class needs of the tables -/
def zth (own : String) (ik ic : Nat) (cls : String) (names : List String) : Prop := Bundle.fit cls = true ∧ (∀ n ∈ names, Bundle.fit n = true) ∧ Cond.classLink own ik cls ∈ zTB ∧ Cond.initialized cls ∈ zTB ∧ (∀ w ∈ (vx_atS own ic cls names).filter goodWord, w ∈ zTB) ∧ (∀ w ∈ (vx_atS own ic cls names).filter (fun w => !goodWord w), w ∈ zCW) ∧ (∀ w ∈ Cond.classLink own ik cls :: Cond.initialized cls :: vx_atS own ic cls names, vx_ot w = true)
theorem zCW_use {args : Array Value} {s : State} (h : ∀ w ∈ zCW, va_Nw w s) : ∀ w ∈ zCW, w.before args s = true := by
  unfold zCW at h ⊢
  simp only [List.forall_mem_cons, List.not_mem_nil, false_imp_iff, implies_true, and_true] at h ⊢
  exact ⟨va_Nw.use rfl h.1, va_Nw.use rfl h.2.1, va_Nw.use rfl h.2.2.1, va_Nw.use rfl h.2.2.2.1, va_Nw.use rfl h.2.2.2.2.1, va_Nw.use rfl h.2.2.2.2.2⟩
theorem zg_throw {ik is ic : Nat} {cls text : String} {names : List String} (hl : g.1.stackTraces = false) (h : zth RX4 ik ic cls names) (ho : μ.1.cls = RX4) (hst : (is, text) ∈ zST)
    (d0 : decode μ.2.1 pc = .ok (.new ik, 3)) (d3 : decode μ.2.1 (pc + 3) = .ok (.dup, 1)) (d4 : decode μ.2.1 (pc + 4) = .ok (.ldc is, 2)) (d6 : decode μ.2.1 (pc + 6) = .ok (.invokespecial ic, 3)) (d9 : decode μ.2.1 (pc + 9) = .ok (.athrow, 1))
    (hR : names.length + 3 < μ.2.2.2.2.1) (hRl : S.length + (13 * (names.length + 1) + 43) ≤ μ.2.2.2.2.2) (hc : ce + 1 ≤ mc) (hs : sl + 6 ≤ ms) (hB : B = (.inr cls, M)) : Zg g μ mc ms ce sl B pc L S M := by
  intro p e s m args below meth c H locs ls sz C hP hD hS hL
  obtain ⟨h1, h2, h3, h4, h5, h6, h7⟩ := h
  obtain ⟨sa, hsa⟩ := C.2.2.2.2.2.2.2.2.1.2.2.2.2 _ hst
  have hat := vx_hat (fun w hw => C.2.2.2.2.2.1 _ (h5 w hw)) h6 (zCW_use (args := args) C.2.2.2.2.2.2.2.2.1.2.2.1)
  have hE := C.2.2.2.2.2.2.2.2.2.2.1
  have hsz := C.2.2.2.2.2.2.2.2.2.1
  exact vx_throwS (sa := sa) C.1 C.2.1 hl (by rw [← ho]; exact C.2.2.2.2.1) h1 h2 (C.2.2.2.2.2.1 _ h3) (C.2.2.2.2.2.1 _ h4) hsa hat h7 hE.1 hE.2 hS (by rw [hL.1]; exact C.2.2.2.1.symm) d0 d3 d4 d6 d9 (fun x hx => (C.2.2.2.2.2.2.2.1 x hx).elim) hR (by rw [zsum]; exact hRl) hc hs C.2.2.2.2.2.2.1
    (fun t _ hz hk => ⟨⟨M, hB, hP.kept (fun k q hq => hk q.1 (hP k q hq).lt)⟩, Nat.le_trans hS.1 hz, fun q q1 q2 => by rw [hk q (Nat.lt_of_lt_of_le q1 hS.1)]; exact hS.2.1 q q1 q2⟩) hS.2.2 hc hs
theorem zN_good : ∀ w ∈ (zN_at.filter vx_no).filter goodWord, w ∈ zTB := fun w hw => zTB_of ((by decide +kernel : ∀ w ∈ (zN_at.filter vx_no).filter goodWord, w ∈ lw_tbl) w hw) (List.mem_filter.mp hw).2
theorem zN_rest : ∀ w ∈ (zN_at.filter vx_no).filter (fun w => !goodWord w), w ∈ zCW := by decide +kernel
theorem zN_ot : ∀ w ∈ Cond.classLink RX4 110 zN_X :: Cond.initialized zN_X :: zN_at.filter vx_no, vx_ot w = true := by decide +kernel
theorem zN_w1 : Cond.classLink RX4 110 zN_X ∈ zTB := zm2 124 (by decide +kernel) rfl
theorem zN_w2 : Cond.initialized zN_X ∈ zTB := zm1 12 (by decide +kernel) rfl
/-- the same of NoSuchElementException, whose constructor passes on by the entry 13 -/
theorem zg_throwN {is : Nat} {text : String} (hl : g.1.stackTraces = false) (ho : μ.1.cls = RX4) (hst : (is, text) ∈ zST)
    (d0 : decode μ.2.1 pc = .ok (.new 110, 3)) (d3 : decode μ.2.1 (pc + 3) = .ok (.dup, 1)) (d4 : decode μ.2.1 (pc + 4) = .ok (.ldc is, 2)) (d6 : decode μ.2.1 (pc + 6) = .ok (.invokespecial 114, 3)) (d9 : decode μ.2.1 (pc + 9) = .ok (.athrow, 1))
    (hR : 5 < μ.2.2.2.2.1) (hRl : S.length + 82 ≤ μ.2.2.2.2.2) (hc : ce + 1 ≤ mc) (hs : sl + 6 ≤ ms) (hB : B = (.inr "java/util/NoSuchElementException", M)) : Zg g μ mc ms ce sl B pc L S M := by
  intro p e s m args below meth c H locs ls sz C hP hD hS hL
  obtain ⟨sa, hsa⟩ := C.2.2.2.2.2.2.2.2.1.2.2.2.2 _ hst
  have hat := vx_hat (L := zN_at.filter vx_no) (fun w hw => C.2.2.2.2.2.1 _ (zN_good w hw)) zN_rest (zCW_use (args := args) C.2.2.2.2.2.2.2.2.1.2.2.1)
  have hE := C.2.2.2.2.2.2.2.2.2.2.1
  exact zN_throw (sa := sa) C.1 C.2.1 hl (by rw [← ho]; exact C.2.2.2.2.1) (C.2.2.2.2.2.1 _ zN_w1) (C.2.2.2.2.2.1 _ zN_w2) hsa hat zN_ot hE.1 hE.2 hS (by rw [hL.1]; exact C.2.2.2.1.symm) d0 d3 d4 d6 d9 (fun x hx => (C.2.2.2.2.2.2.2.1 x hx).elim) hR (by rw [zsum]; exact hRl) hc hs C.2.2.2.2.2.2.1
    (fun t _ hz hk => ⟨⟨M, hB, hP.kept (fun k q hq => hk q.1 (hP k q hq).lt)⟩, Nat.le_trans hS.1 hz, fun q q1 q2 => by rw [hk q (Nat.lt_of_lt_of_le q1 hS.1)]; exact hS.2.1 q q1 q2⟩) hS.2.2 hc hs
end ZGC
end
section
/-! ===== TREES: the answer of a method as a term that the walk peels ===== -/
def zlet {α β : Type} (a : α) (k : α → β) : β := k a
def bI (b : Bool) : Int32 := if b then 1 else 0
theorem bI_t : bI true = 1 := rfl
theorem bI_f : bI false = 0 := rfl
theorem bI_0 (b : Bool) : bI b = 0 ↔ b = false := by cases b <;> simp [bI]
theorem bI_nar (b : Bool) : narrow .boolean (.int (bI b)) = .int (bI b) := by cases b <;> rfl
theorem bI_vp (b : Bool) : vp_nar .boolean (bI b) = bI b := by cases b <;> rfl
/-- the wraps: what a method's term says of its answer and the memory -/
def wI (M : Mem) (v : Int32) : ZR := (.inl (some v), M)
def wB (M : Mem) (b : Bool) : ZR := (.inl (some (bI b)), M)
def wV (N : Mem) : ZR := (.inl none, N)
def wIM (q : Int32 × Mem) : ZR := (.inl (some q.1), q.2)
def wBM (q : Bool × Mem) : ZR := (.inl (some (bI q.1)), q.2)
/-- of methods that may throw -/
def xI (M : Mem) : Int32 ⊕ String → ZR := Sum.elim (fun v => (.inl (some v), M)) (fun E => (.inr E, M))
def xB (M : Mem) : Bool ⊕ String → ZR := Sum.elim (fun v => (.inl (some (bI v)), M)) (fun E => (.inr E, M))
def xV (q : (Unit ⊕ String) × Mem) : ZR := Sum.elim (fun _ => (.inl none, q.2)) (fun E => (.inr E, q.2)) q.1
def xIM (q : (Int32 ⊕ String) × Mem) : ZR := Sum.elim (fun v => (.inl (some v), q.2)) (fun E => (.inr E, q.2)) q.1
def xBM (q : (Bool ⊕ String) × Mem) : ZR := Sum.elim (fun v => (.inl (some (bI v)), q.2)) (fun E => (.inr E, q.2)) q.1
def zlkS (own : String) (idx : Nat) (ν : MI) (n : Nat) : Prop := Cond.methodLink own idx ν.1 ∈ zTB ∧ Cond.static ν.1 ∈ zTB ∧ zin ν n
def zlkN (own : String) (idx : Nat) (ν : MI) (n : Nat) : Prop := (∃ host : String, Cond.methodLinkNest own idx ν.1 host ∈ zNW) ∧ Cond.static ν.1 ∈ zTB ∧ zin ν n
def zlkV (own : String) (idx : Nat) (ν : MI) (n ci : Nat) : Prop := ∃ q : vw_C, vwCl[ci]? = some q ∧ Cond.methodLink own idx ν.1 ∈ zTB ∧ Cond.instanceMethod ν.1 ∈ zTB ∧ Cond.selects q.1 ν.1 ν.1 ∈ zTB ∧ zin ν n
section ZT
variable {g : ZG} {μ ν : MI} {mc ms ce sl : Nat} {pc : Nat} {L : List (Option SV)} {S S0 As : List SV} {M N0 : Mem} {α β : Type} {K : α → ZR}
theorem zg_st {B : ZR} {pc' : Nat} {L' : List (Option SV)} {S' : List SV} {M' : Mem} (hp : pc' = pc) (hL : L' = L) (hS : S' = S) (hM : M' = M) (h : Zg g μ mc ms ce sl B pc' L' S' M') : Zg g μ mc ms ce sl B pc L S M := by
  subst hp hL hS hM; exact h
theorem zg_ifz {cd : Jvm.ClassFile.Cond} {off : Int} {tgt : Nat} {x : Int32} {c : Prop} [Decidable c] {A₁ A₂ : α} (d : decode μ.2.1 pc = .ok (.ifCond cd off, 3)) (ht : (pc : Int) + off = (tgt : Int)) (hc : c = zc1 cd x) (h1 : c → Zg g μ mc ms ce sl (zlet A₁ K) tgt L S M) (h2 : ¬ c → Zg g μ mc ms ce sl (zlet A₂ K) (pc + 3) L S M) : Zg g μ mc ms ce sl (zlet (if c then A₁ else A₂) K) pc L (.inl x :: S) M := by
  subst hc
  exact zg_if d ht (fun q => by rw [if_pos q]; exact h1 q) (fun q => by rw [if_neg q]; exact h2 q)
theorem zg_icmpz {cd : Jvm.ClassFile.Cond} {off : Int} {tgt : Nat} {x y : Int32} {c : Prop} [Decidable c] {A₁ A₂ : α} (d : decode μ.2.1 pc = .ok (.if_icmp cd off, 3)) (ht : (pc : Int) + off = (tgt : Int)) (hc : c = zc2 cd x y) (h1 : c → Zg g μ mc ms ce sl (zlet A₁ K) tgt L S M) (h2 : ¬ c → Zg g μ mc ms ce sl (zlet A₂ K) (pc + 3) L S M) : Zg g μ mc ms ce sl (zlet (if c then A₁ else A₂) K) pc L (.inl y :: .inl x :: S) M := by
  subst hc
  exact zg_icmp d ht (fun q => by rw [if_pos q]; exact h1 q) (fun q => by rw [if_neg q]; exact h2 q)
/-- the branch on a boolean: taken where it is false (eq), true (ne) -/
theorem zg_ifbe {off : Int} {tgt : Nat} {b : Bool} {A₁ A₂ : α} (d : decode μ.2.1 pc = .ok (.ifCond .eq off, 3)) (ht : (pc : Int) + off = (tgt : Int)) (h1 : b = true → Zg g μ mc ms ce sl (zlet A₁ K) (pc + 3) L S M) (h2 : b = false → Zg g μ mc ms ce sl (zlet A₂ K) tgt L S M) : Zg g μ mc ms ce sl (zlet (if b then A₁ else A₂) K) pc L (.inl (bI b) :: S) M := by
  cases b with
  | true => exact zg_if d ht (fun q => absurd (show (1 : Int32) = 0 from q) (by decide)) (fun _ => h1 rfl)
  | false => exact zg_if d ht (fun _ => h2 rfl) (fun q => absurd (show (0 : Int32) = 0 from rfl) q)
theorem zg_ifbn {off : Int} {tgt : Nat} {b : Bool} {A₁ A₂ : α} (d : decode μ.2.1 pc = .ok (.ifCond .ne off, 3)) (ht : (pc : Int) + off = (tgt : Int)) (h1 : b = true → Zg g μ mc ms ce sl (zlet A₁ K) tgt L S M) (h2 : b = false → Zg g μ mc ms ce sl (zlet A₂ K) (pc + 3) L S M) : Zg g μ mc ms ce sl (zlet (if b then A₁ else A₂) K) pc L (.inl (bI b) :: S) M := by
  cases b with
  | true => exact zg_if d ht (fun _ => h1 rfl) (fun q => absurd (fun z : (1 : Int32) = 0 => absurd z (by decide)) q)
  | false => exact zg_if d ht (fun q => absurd (show (0 : Int32) = 0 from rfl) q) (fun _ => h2 rfl)
theorem zg_jt {B : ZR} {cd : Jvm.ClassFile.Cond} {off : Int} {tgt : Nat} {x : Int32} (d : decode μ.2.1 pc = .ok (.ifCond cd off, 3)) (ht : (pc : Int) + off = (tgt : Int)) (hc : zc1 cd x) (h : Zg g μ mc ms ce sl B tgt L S M) : Zg g μ mc ms ce sl B pc L (.inl x :: S) M := zg_if d ht (fun _ => h) (fun q => absurd hc q)
theorem zg_jf {B : ZR} {cd : Jvm.ClassFile.Cond} {off : Int} {tgt : Nat} {x : Int32} (d : decode μ.2.1 pc = .ok (.ifCond cd off, 3)) (ht : (pc : Int) + off = (tgt : Int)) (hc : ¬ zc1 cd x) (h : Zg g μ mc ms ce sl B (pc + 3) L S M) : Zg g μ mc ms ce sl B pc L (.inl x :: S) M := zg_if d ht (fun q => absurd q hc) (fun _ => h)
theorem zg_jt2 {B : ZR} {cd : Jvm.ClassFile.Cond} {off : Int} {tgt : Nat} {x y : Int32} (d : decode μ.2.1 pc = .ok (.if_icmp cd off, 3)) (ht : (pc : Int) + off = (tgt : Int)) (hc : zc2 cd x y) (h : Zg g μ mc ms ce sl B tgt L S M) : Zg g μ mc ms ce sl B pc L (.inl y :: .inl x :: S) M := zg_icmp d ht (fun _ => h) (fun q => absurd hc q)
theorem zg_jf2 {B : ZR} {cd : Jvm.ClassFile.Cond} {off : Int} {tgt : Nat} {x y : Int32} (d : decode μ.2.1 pc = .ok (.if_icmp cd off, 3)) (ht : (pc : Int) + off = (tgt : Int)) (hc : ¬ zc2 cd x y) (h : Zg g μ mc ms ce sl B (pc + 3) L S M) : Zg g μ mc ms ce sl B pc L (.inl y :: .inl x :: S) M := zg_icmp d ht (fun q => absurd q hc) (fun _ => h)
/-- a join: the tree gives what differs, then one road -/
theorem zg_join {tree : β} {k : β → α} {pc' : Nat} {Lf : β → List (Option SV)} {Sf : β → List SV} {Mf : β → Mem} (J : ∀ j : β, Zg g μ mc ms ce sl (zlet (k j) K) pc' (Lf j) (Sf j) (Mf j))
    (h : (∀ j : β, Zg g μ mc ms ce sl (zlet j (fun j => zlet (k j) K)) pc' (Lf j) (Sf j) (Mf j)) → Zg g μ mc ms ce sl (zlet tree (fun j => zlet (k j) K)) pc L S M) : Zg g μ mc ms ce sl (zlet (zlet tree k) K) pc L S M := h J
theorem zg_asc {B : β} {k : β → α} (h : Zg g μ mc ms ce sl (zlet B (fun j => zlet (k j) K)) pc L S M) : Zg g μ mc ms ce sl (zlet (zlet B k) K) pc L S M := h
-- calls of methods that don't throw: what they answer
theorem zg_cS {B : ZR} {n idx : Nat} {r : Option Int32} (d : decode μ.2.1 pc = .ok (.invokestatic idx, 3)) (hk : zlkS μ.1.cls idx ν n) (hm : Zc g ν 0 0 As M (.inl r, N0)) (hn : As.length = n) (hf : zfit μ ν) (hc : ce ≤ mc ∧ sl ≤ ms) (hS0 : As.reverse ++ S = S0) (hw : S.length ≤ 8) (h : Zg g μ mc ms ce sl B (pc + 3) L (r.toList.map Sum.inl ++ S) N0) : Zg g μ mc ms ce sl B pc L S0 M :=
  zg_callS d hm hk.1 hk.2.1 hk.2.2 hn hf hc hS0 hw (fun E N q => by cases q) (fun r' N q => by cases q; exact h)
theorem zg_cN {B : ZR} {n idx : Nat} {r : Option Int32} (d : decode μ.2.1 pc = .ok (.invokestatic idx, 3)) (hk : zlkN μ.1.cls idx ν n) (hm : Zc g ν 0 0 As M (.inl r, N0)) (hn : As.length = n) (hf : zfit μ ν) (hc : ce ≤ mc ∧ sl ≤ ms) (hS0 : As.reverse ++ S = S0) (hw : S.length ≤ 8) (h : Zg g μ mc ms ce sl B (pc + 3) L (r.toList.map Sum.inl ++ S) N0) : Zg g μ mc ms ce sl B pc L S0 M := by
  obtain ⟨⟨host, h1⟩, h2, h3⟩ := hk
  exact zg_callSN d hm h1 h2 h3 hn hf hc hS0 hw (fun E N q => by cases q) (fun r' N q => by cases q; exact h)
theorem zg_cV {B : ZR} {n idx k ci : Nat} {fs : List (Option Nat)} {r : Option Int32} (d : decode μ.2.1 pc = .ok (.invokevirtual idx, 3)) (hk : zlkV μ.1.cls idx ν n ci) (hm : Zc g ν 0 0 (.inr k :: As) M (.inl r, N0)) (hcell : g.2.2.2.2[k]? = some (.inl (ci, fs))) (hn : As.length = n) (hf : zfit μ ν) (hc : ce ≤ mc ∧ sl ≤ ms) (hS0 : As.reverse ++ .inr k :: S = S0) (hw : S.length ≤ 8) (h : Zg g μ mc ms ce sl B (pc + 3) L (r.toList.map Sum.inl ++ S) N0) : Zg g μ mc ms ce sl B pc L S0 M := by
  obtain ⟨q, h0, h1, h2, h3, h4⟩ := hk
  exact zg_callV d hm h1 h2 h3 hcell h0 h4 hn hf hc hS0 hw (fun E N q => by cases q) (fun r' N q => by cases q; exact h)
-- the same, the answer and the memory behind it by a name
theorem zg_cVIM {F : Int32 × Mem} {f : Int32 × Mem → α} {n idx k ci : Nat} {fs : List (Option Nat)} (d : decode μ.2.1 pc = .ok (.invokevirtual idx, 3)) (hk : zlkV μ.1.cls idx ν n ci) (hm : Zc g ν 0 0 (.inr k :: As) M (wIM F)) (hcell : g.2.2.2.2[k]? = some (.inl (ci, fs))) (hn : As.length = n) (hf : zfit μ ν) (hc : ce ≤ mc ∧ sl ≤ ms) (hS0 : As.reverse ++ .inr k :: S = S0) (hw : S.length ≤ 8) (h : ∀ q : Int32 × Mem, q = F → Zg g μ mc ms ce sl (zlet (f q) K) (pc + 3) L (.inl q.1 :: S) q.2) : Zg g μ mc ms ce sl (zlet (zlet F f) K) pc L S0 M :=
  zg_cV d hk (r := some F.1) (N0 := F.2) hm hcell hn hf hc hS0 hw (h F rfl)
theorem zg_cVBM {F : Bool × Mem} {f : Bool × Mem → α} {n idx k ci : Nat} {fs : List (Option Nat)} (d : decode μ.2.1 pc = .ok (.invokevirtual idx, 3)) (hk : zlkV μ.1.cls idx ν n ci) (hm : Zc g ν 0 0 (.inr k :: As) M (wBM F)) (hcell : g.2.2.2.2[k]? = some (.inl (ci, fs))) (hn : As.length = n) (hf : zfit μ ν) (hc : ce ≤ mc ∧ sl ≤ ms) (hS0 : As.reverse ++ .inr k :: S = S0) (hw : S.length ≤ 8) (h : ∀ q : Bool × Mem, q = F → Zg g μ mc ms ce sl (zlet (f q) K) (pc + 3) L (.inl (bI q.1) :: S) q.2) : Zg g μ mc ms ce sl (zlet (zlet F f) K) pc L S0 M :=
  zg_cV d hk (r := some (bI F.1)) (N0 := F.2) hm hcell hn hf hc hS0 hw (h F rfl)
theorem zg_cVV {F : Mem} {f : Mem → α} {n idx k ci : Nat} {fs : List (Option Nat)} (d : decode μ.2.1 pc = .ok (.invokevirtual idx, 3)) (hk : zlkV μ.1.cls idx ν n ci) (hm : Zc g ν 0 0 (.inr k :: As) M (wV F)) (hcell : g.2.2.2.2[k]? = some (.inl (ci, fs))) (hn : As.length = n) (hf : zfit μ ν) (hc : ce ≤ mc ∧ sl ≤ ms) (hS0 : As.reverse ++ .inr k :: S = S0) (hw : S.length ≤ 8) (h : ∀ N : Mem, N = F → Zg g μ mc ms ce sl (zlet (f N) K) (pc + 3) L S N) : Zg g μ mc ms ce sl (zlet (zlet F f) K) pc L S0 M :=
  zg_cV d hk (r := none) (N0 := F) hm hcell hn hf hc hS0 hw (h F rfl)
theorem zg_cSV {F : Mem} {f : Mem → α} {n idx : Nat} (d : decode μ.2.1 pc = .ok (.invokestatic idx, 3)) (hk : zlkS μ.1.cls idx ν n) (hm : Zc g ν 0 0 As M (wV F)) (hn : As.length = n) (hf : zfit μ ν) (hc : ce ≤ mc ∧ sl ≤ ms) (hS0 : As.reverse ++ S = S0) (hw : S.length ≤ 8) (h : ∀ N : Mem, N = F → Zg g μ mc ms ce sl (zlet (f N) K) (pc + 3) L S N) : Zg g μ mc ms ce sl (zlet (zlet F f) K) pc L S0 M :=
  zg_cS d hk (r := none) (N0 := F) hm hn hf hc hS0 hw (h F rfl)
/-- a static call that may throw, and its answer is handed on at once -/
theorem zg_cSX {F : Int32 ⊕ String} {n idx : Nat} (d : decode μ.2.1 pc = .ok (.invokestatic idx, 3)) (dr : decode μ.2.1 (pc + 3) = .ok (.ireturn, 1)) (hr : μ.2.2.2.1 = some .int) (hk : zlkS μ.1.cls idx ν n) (hm : Zc g ν 1 6 As M (xI M F)) (hn : As.length = n) (hf : zfit μ ν) (hS0 : As.reverse = S0) : Zg g μ 1 6 0 0 (xI M F) pc L S0 M := by
  refine zg_callS d hm hk.1 hk.2.1 hk.2.2 hn hf ⟨Nat.le_refl _, Nat.le_refl _⟩ (S := []) (by rw [List.append_nil]; exact hS0) (Nat.zero_le _) (fun E N q => q) (fun r N q => ?_)
  cases F with
  | inl v =>
    cases q
    exact zg_iret dr hr rfl ⟨Nat.le_refl _, Nat.le_refl _⟩ rfl
  | inr E => cases q
end ZT
-- numbers
theorem z_up {C v : Int32} {n : Nat} (h : ¬ C ≤ v) (hn : (C.toInt - v.toInt).toNat < n + 1) : (C.toInt - (v + 1).toInt).toNat < n := by
  rw [Int32.le_iff_toInt_le] at h
  have h1 := Int32.toInt_lt C
  have h2 := Int32.le_toInt v
  have e : (v + 1).toInt = v.toInt + 1 := by
    rw [Int32.toInt_add, Int32.toInt_one, Int.bmod_eq_of_le] <;> omega
  omega
theorem z_upe {C v : Int32} {n : Nat} (h : ¬ C < v) (hC : C.toInt < 2 ^ 30) (hn : (C.toInt + 1 - v.toInt).toNat < n + 1) : (C.toInt + 1 - (v + 1).toInt).toNat < n := by
  rw [Int32.lt_iff_toInt_lt] at h
  have h2 := Int32.le_toInt v
  have e : (v + 1).toInt = v.toInt + 1 := by
    rw [Int32.toInt_add, Int32.toInt_one, Int.bmod_eq_of_le] <;> omega
  omega
theorem z_dn {C v : Int32} {n : Nat} (h : ¬ v < C) (hC : -(2 ^ 30) < C.toInt) (hn : (v.toInt + 1 - C.toInt).toNat < n + 1) : ((v + (-1)).toInt + 1 - C.toInt).toNat < n := by
  rw [Int32.lt_iff_toInt_lt] at h
  have h2 := Int32.toInt_lt v
  have e : (v + (-1)).toInt = v.toInt - 1 := by
    rw [Int32.toInt_add, show (-1 : Int32).toInt = -1 from rfl, Int.bmod_eq_of_le] <;> omega
  omega
section ZT2
variable {g : ZG} {μ ν : MI} {mc ms ce sl : Nat} {pc : Nat} {L : List (Option SV)} {S S0 As : List SV} {M N0 : Mem}
theorem zg_cS1 {B : ZR} {n idx : Nat} {v : Int32} (d : decode μ.2.1 pc = .ok (.invokestatic idx, 3)) (hk : zlkS μ.1.cls idx ν n) (hm : Zc g ν 0 0 As M (.inl (some v), N0)) (hn : As.length = n) (hf : zfit μ ν) (hc : ce ≤ mc ∧ sl ≤ ms) (hS0 : As.reverse ++ S = S0) (hw : S.length ≤ 8) (h : Zg g μ mc ms ce sl B (pc + 3) L (.inl v :: S) N0) : Zg g μ mc ms ce sl B pc L S0 M := zg_cS d hk hm hn hf hc hS0 hw h
theorem zg_cN1 {B : ZR} {n idx : Nat} {v : Int32} (d : decode μ.2.1 pc = .ok (.invokestatic idx, 3)) (hk : zlkN μ.1.cls idx ν n) (hm : Zc g ν 0 0 As M (.inl (some v), N0)) (hn : As.length = n) (hf : zfit μ ν) (hc : ce ≤ mc ∧ sl ≤ ms) (hS0 : As.reverse ++ S = S0) (hw : S.length ≤ 8) (h : Zg g μ mc ms ce sl B (pc + 3) L (.inl v :: S) N0) : Zg g μ mc ms ce sl B pc L S0 M := zg_cN d hk hm hn hf hc hS0 hw h
theorem zg_cV1 {B : ZR} {n idx k ci : Nat} {fs : List (Option Nat)} {v : Int32} (d : decode μ.2.1 pc = .ok (.invokevirtual idx, 3)) (hk : zlkV μ.1.cls idx ν n ci) (hm : Zc g ν 0 0 (.inr k :: As) M (.inl (some v), N0)) (hcell : g.2.2.2.2[k]? = some (.inl (ci, fs))) (hn : As.length = n) (hf : zfit μ ν) (hc : ce ≤ mc ∧ sl ≤ ms) (hS0 : As.reverse ++ .inr k :: S = S0) (hw : S.length ≤ 8) (h : Zg g μ mc ms ce sl B (pc + 3) L (.inl v :: S) N0) : Zg g μ mc ms ce sl B pc L S0 M := zg_cV d hk hm hcell hn hf hc hS0 hw h
/-- fewer locals known -/
def zle : List (Option SV) → List (Option SV) → Prop
  | [], [] => True
  | none :: r, _ :: s => zle r s
  | some v :: r, some w :: s => v = w ∧ zle r s
  | _, _ => False
theorem zle_at : ∀ (L' L : List (Option SV)), zle L' L → L'.length = L.length ∧ ∀ (i : Nat) (v : SV), L'[i]? = some (some v) → L[i]? = some (some v)
  | [], [], _ => ⟨rfl, fun i v h => by simp at h⟩
  | none :: r, _ :: s, h => by
    obtain ⟨h1, h2⟩ := zle_at r s h
    refine ⟨by simp [h1], fun i v hi => ?_⟩
    cases i with
    | zero => simp at hi
    | succ i => simpa using h2 i v (by simpa using hi)
  | some v :: r, some w :: s, h => by
    obtain ⟨h1, h2⟩ := zle_at r s h.2
    refine ⟨by simp [h1], fun i u hi => ?_⟩
    cases i with
    | zero =>
      have e : v = u := by simpa using hi
      simp [← e, h.1]
    | succ i => simpa using h2 i u (by simpa using hi)
  | some _ :: _, none :: _, h => h.elim
  | some _ :: _, [], h => h.elim
  | none :: _, [], h => h.elim
  | [], _ :: _, h => h.elim
theorem zg_drop {B : ZR} {L' : List (Option SV)} (hl : zle L' L) (h : Zg g μ mc ms ce sl B pc L' S M) : Zg g μ mc ms ce sl B pc L S M := by
  obtain ⟨h1, h2⟩ := zle_at L' L hl
  exact fun p e s m args below meth c H locs ls sz C hP hD hS hL => h p e s m args below meth c H locs ls sz C hP hD hS ⟨hL.1, hL.2.1, by rw [h1]; exact hL.2.2.1, fun i v hi => hL.2.2.2 i v (h2 i v hi)⟩
end ZT2
-- the two worlds
abbrev ZQ : Type := Launch × va_G × (ClassId × ClassId × ClassId) × (Nat → Nat)
abbrev shX : List ShE := [.inl (4, [some 1, some 2, some 3, some 4, some 5, none]), .inl (0, [some 6, some 7, some 8, some 9]), .inl (3, [some 10, some 11, some 12, some 13, some 14]), .inl (2, [some 15, none]), .inl (1, [some 16, some 17, some 18, some 19]),
  .inr (false, 4), .inr (true, 120), .inr (true, 240), .inr (true, 6), .inr (false, 6), .inr (false, 48), .inr (false, 53), .inr (false, 53), .inr (false, 53), .inr (false, 53), .inr (false, 48), .inr (false, 3), .inr (false, 3), .inr (false, 53), .inr (false, 53)]
abbrev zgX (q : ZQ) : ZG := (q.1, q.2.1, q.2.2.1, q.2.2.2, shX)
section ZT3
variable {g : ZG} {μ : MI} {mc ms ce sl : Nat} {pc : Nat} {L : List (Option SV)} {S : List SV} {M : Mem} {B : ZR}
/-- the branch on a boolean that is known already -/
theorem zg_kbeqt {off : Int} {tgt : Nat} {b : Bool} (d : decode μ.2.1 pc = .ok (.ifCond .eq off, 3)) (ht : (pc : Int) + off = (tgt : Int)) (hb : b = true) (h : Zg g μ mc ms ce sl B (pc + 3) L S M) : Zg g μ mc ms ce sl B pc L (.inl (bI b) :: S) M := by
  subst hb; exact zg_jf d ht (show ¬ ((1 : Int32) = 0) by decide) h
theorem zg_kbeqf {off : Int} {tgt : Nat} {b : Bool} (d : decode μ.2.1 pc = .ok (.ifCond .eq off, 3)) (ht : (pc : Int) + off = (tgt : Int)) (hb : b = false) (h : Zg g μ mc ms ce sl B tgt L S M) : Zg g μ mc ms ce sl B pc L (.inl (bI b) :: S) M := by
  subst hb; exact zg_jt d ht (show (0 : Int32) = 0 from rfl) h
theorem zg_kbnet {off : Int} {tgt : Nat} {b : Bool} (d : decode μ.2.1 pc = .ok (.ifCond .ne off, 3)) (ht : (pc : Int) + off = (tgt : Int)) (hb : b = true) (h : Zg g μ mc ms ce sl B tgt L S M) : Zg g μ mc ms ce sl B pc L (.inl (bI b) :: S) M := by
  subst hb; exact zg_jt d ht (show ¬ ((1 : Int32) = 0) by decide) h
theorem zg_kbnef {off : Int} {tgt : Nat} {b : Bool} (d : decode μ.2.1 pc = .ok (.ifCond .ne off, 3)) (ht : (pc : Int) + off = (tgt : Int)) (hb : b = false) (h : Zg g μ mc ms ce sl B (pc + 3) L S M) : Zg g μ mc ms ce sl B pc L (.inl (bI b) :: S) M := by
  subst hb; exact zg_jf d ht (show ¬ (¬ ((0 : Int32) = 0)) by decide) h
end ZT3
end
section
/-! ===== by program (wip/p29/emit.py): the methods: name, code, locals, answer, frames, words of locals; their code stands in the tables ===== -/
abbrev mX4_isFile : MI := (yX4_isFile, cX4_isFile, 1, some .boolean, 1, 0)
theorem zi_X4_isFile : zin mX4_isFile 1 := ⟨zm1 209 (by decide +kernel) rfl, (zm1 1 (by decide +kernel) rfl), ⟨by decide, by decide⟩, by decide +kernel⟩
abbrev mX4_isBlock : MI := (yX4_isBlock, cX4_isBlock, 1, some .boolean, 1, 0)
theorem zi_X4_isBlock : zin mX4_isBlock 1 := ⟨zm1 212 (by decide +kernel) rfl, (zm1 1 (by decide +kernel) rfl), ⟨by decide, by decide⟩, by decide +kernel⟩
abbrev mX4_isBlockOfFile : MI := (yX4_isBlockOfFile, cX4_isBlockOfFile, 2, some .boolean, 2, 20)
theorem zi_X4_isBlockOfFile : zin mX4_isBlockOfFile 2 := ⟨zm1 206 (by decide +kernel) rfl, (zm1 1 (by decide +kernel) rfl), ⟨by decide, by decide⟩, by decide +kernel⟩
abbrev mX4_blockPointer : MI := (yX4_blockPointer, cX4_blockPointer, 2, some .int, 1, 0)
theorem zi_X4_blockPointer : zin mX4_blockPointer 2 := ⟨zm1 178 (by decide +kernel) rfl, (zm1 1 (by decide +kernel) rfl), ⟨by decide, by decide⟩, by decide +kernel⟩
abbrev mX4_isBlockPointer : MI := (yX4_isBlockPointer, cX4_isBlockPointer, 1, some .boolean, 1, 0)
theorem zi_X4_isBlockPointer : zin mX4_isBlockPointer 1 := ⟨zm2 51 (by decide +kernel) rfl, (zm1 1 (by decide +kernel) rfl), ⟨by decide, by decide⟩, by decide +kernel⟩
abbrev mX2_holds : MI := (yX2_holds, cX2_holds, 2, some .boolean, 2, 20)
theorem zi_X2_holds : zin mX2_holds 1 := ⟨zm2 48 (by decide +kernel) rfl, (zm1 5 (by decide +kernel) rfl), ⟨by decide, by decide⟩, by decide +kernel⟩
abbrev mX2_changeOf : MI := (yX2_changeOf, cX2_changeOf, 2, some .int, 2, 20)
theorem zi_X2_changeOf : zin mX2_changeOf 1 := ⟨zm2 55 (by decide +kernel) rfl, (zm1 5 (by decide +kernel) rfl), ⟨by decide, by decide⟩, by decide +kernel⟩
abbrev mX3_valueOf : MI := (yX3_valueOf, cX3_valueOf, 2, some .int, 2, 20)
theorem zi_X3_valueOf : zin mX3_valueOf 1 := ⟨zm2 59 (by decide +kernel) rfl, (zm1 3 (by decide +kernel) rfl), ⟨by decide, by decide⟩, by decide +kernel⟩
abbrev mX4_valueNow : MI := (yX4_valueNow, cX4_valueNow, 4, some .int, 3, 41)
theorem zi_X4_valueNow : zin mX4_valueNow 2 := ⟨zm2 44 (by decide +kernel) rfl, (zm1 1 (by decide +kernel) rfl), ⟨by decide, by decide⟩, by decide +kernel⟩
abbrev mX2_change : MI := (yX2_change, cX2_change, 3, none, 2, 20)
theorem zi_X2_change : zin mX2_change 2 := ⟨zm2 64 (by decide +kernel) rfl, (zm1 5 (by decide +kernel) rfl), ⟨by decide, by decide⟩, by decide +kernel⟩
abbrev mX4_write : MI := (yX4_write, cX4_write, 5, some .int, 6, 100)
theorem zi_X4_write : zin mX4_write 3 := ⟨zm1 203 (by decide +kernel) rfl, (zm1 1 (by decide +kernel) rfl), ⟨by decide, by decide⟩, by decide +kernel⟩
abbrev mX4_punch : MI := (yX4_punch, cX4_punch, 6, some .int, 6, 100)
theorem zi_X4_punch : zin mX4_punch 3 := ⟨zm2 72 (by decide +kernel) rfl, (zm1 1 (by decide +kernel) rfl), ⟨by decide, by decide⟩, by decide +kernel⟩
abbrev mX4_setCopies : MI := (yX4_setCopies, cX4_setCopies, 4, some .int, 6, 100)
theorem zi_X4_setCopies : zin mX4_setCopies 2 := ⟨zm2 80 (by decide +kernel) rfl, (zm1 1 (by decide +kernel) rfl), ⟨by decide, by decide⟩, by decide +kernel⟩
abbrev mX4_filePointer : MI := (yX4_filePointer, cX4_filePointer, 1, some .int, 1, 0)
theorem zi_X4_filePointer : zin mX4_filePointer 1 := ⟨zm1 175 (by decide +kernel) rfl, (zm1 1 (by decide +kernel) rfl), ⟨by decide, by decide⟩, by decide +kernel⟩
abbrev mX4_isPointer : MI := (yX4_isPointer, cX4_isPointer, 1, some .boolean, 1, 0)
theorem zi_X4_isPointer : zin mX4_isPointer 1 := ⟨zm1 135 (by decide +kernel) rfl, (zm1 1 (by decide +kernel) rfl), ⟨by decide, by decide⟩, by decide +kernel⟩
abbrev mX3_placeOf : MI := (yX3_placeOf, cX3_placeOf, 3, some .int, 2, 20)
theorem zi_X3_placeOf : zin mX3_placeOf 2 := ⟨zm1 132 (by decide +kernel) rfl, (zm1 3 (by decide +kernel) rfl), ⟨by decide, by decide⟩, by decide +kernel⟩
abbrev mX3_isMissing : MI := (yX3_isMissing, cX3_isMissing, 2, some .boolean, 3, 42)
theorem zi_X3_isMissing : zin mX3_isMissing 1 := ⟨zm1 186 (by decide +kernel) rfl, (zm1 3 (by decide +kernel) rfl), ⟨by decide, by decide⟩, by decide +kernel⟩
abbrev mX4_isCellOnSide : MI := (yX4_isCellOnSide, cX4_isCellOnSide, 2, some .boolean, 1, 0)
theorem zi_X4_isCellOnSide : zin mX4_isCellOnSide 2 := ⟨zm1 142 (by decide +kernel) rfl, (zm1 1 (by decide +kernel) rfl), ⟨by decide, by decide⟩, by decide +kernel⟩
abbrev mX4_mirrorOf : MI := (yX4_mirrorOf, cX4_mirrorOf, 1, some .int, 1, 0)
theorem zi_X4_mirrorOf : zin mX4_mirrorOf 1 := ⟨zm1 145 (by decide +kernel) rfl, (zm1 1 (by decide +kernel) rfl), ⟨by decide, by decide⟩, by decide +kernel⟩
abbrev mX0_isGood : MI := (yX0_isGood, cX0_isGood, 3, some .boolean, 2, 21)
theorem zi_X0_isGood : zin mX0_isGood 2 := ⟨zm1 139 (by decide +kernel) rfl, (zm1 2 (by decide +kernel) rfl), ⟨by decide, by decide⟩, by decide +kernel⟩
abbrev mX4_canFetch : MI := (yX4_canFetch, cX4_canFetch, 5, some .boolean, 3, 43)
theorem zi_X4_canFetch : zin mX4_canFetch 1 := ⟨zm1 128 (by decide +kernel) rfl, (zm1 1 (by decide +kernel) rfl), ⟨by decide, by decide⟩, by decide +kernel⟩
abbrev mX4_isUnreadable : MI := (yX4_isUnreadable, cX4_isUnreadable, 2, some .boolean, 4, 67)
theorem zi_X4_isUnreadable : zin mX4_isUnreadable 1 := ⟨zm2 94 (by decide +kernel) rfl, (zm1 1 (by decide +kernel) rfl), ⟨by decide, by decide⟩, by decide +kernel⟩
abbrev mX0_hasSpoilt : MI := (yX0_hasSpoilt, cX0_hasSpoilt, 3, some .boolean, 2, 21)
theorem zi_X0_hasSpoilt : zin mX0_hasSpoilt 2 := ⟨zm1 157 (by decide +kernel) rfl, (zm1 2 (by decide +kernel) rfl), ⟨by decide, by decide⟩, by decide +kernel⟩
abbrev mX4_isSideOfMirror : MI := (yX4_isSideOfMirror, cX4_isSideOfMirror, 2, some .boolean, 1, 0)
theorem zi_X4_isSideOfMirror : zin mX4_isSideOfMirror 2 := ⟨zm1 164 (by decide +kernel) rfl, (zm1 1 (by decide +kernel) rfl), ⟨by decide, by decide⟩, by decide +kernel⟩
abbrev mX0_hasOnline : MI := (yX0_hasOnline, cX0_hasOnline, 3, some .boolean, 2, 21)
theorem zi_X0_hasOnline : zin mX0_hasOnline 2 := ⟨zm1 161 (by decide +kernel) rfl, (zm1 2 (by decide +kernel) rfl), ⟨by decide, by decide⟩, by decide +kernel⟩
abbrev mX0_mark : MI := (yX0_mark, cX0_mark, 4, none, 2, 21)
theorem zi_X0_mark : zin mX0_mark 3 := ⟨zm1 168 (by decide +kernel) rfl, (zm1 2 (by decide +kernel) rfl), ⟨by decide, by decide⟩, by decide +kernel⟩
abbrev mX0_heal : MI := (yX0_heal, cX0_heal, 3, some .int, 3, 44)
theorem zi_X0_heal : zin mX0_heal 2 := ⟨zm1 153 (by decide +kernel) rfl, (zm1 2 (by decide +kernel) rfl), ⟨by decide, by decide⟩, by decide +kernel⟩
abbrev mX4_healUpToGoodCell : MI := (yX4_healUpToGoodCell, cX4_healUpToGoodCell, 6, some .int, 4, 66)
theorem zi_X4_healUpToGoodCell : zin mX4_healUpToGoodCell 1 := ⟨zm2 114 (by decide +kernel) rfl, (zm1 1 (by decide +kernel) rfl), ⟨by decide, by decide⟩, by decide +kernel⟩
abbrev mX4_read : MI := (yX4_read, cX4_read, 5, some .int, 6, 100)
theorem zi_X4_read : zin mX4_read 2 := ⟨zm2 89 (by decide +kernel) rfl, (zm1 1 (by decide +kernel) rfl), ⟨by decide, by decide⟩, by decide +kernel⟩
abbrev mX4_nextData : MI := (yX4_nextData, cX4_nextData, 4, some .int, 6, 100)
theorem zi_X4_nextData : zin mX4_nextData 2 := ⟨zm2 123 (by decide +kernel) rfl, (zm1 1 (by decide +kernel) rfl), ⟨by decide, by decide⟩, by decide +kernel⟩
abbrev mX4_nextHole : MI := (yX4_nextHole, cX4_nextHole, 4, some .int, 6, 100)
theorem zi_X4_nextHole : zin mX4_nextHole 2 := ⟨zm2 147 (by decide +kernel) rfl, (zm1 1 (by decide +kernel) rfl), ⟨by decide, by decide⟩, by decide +kernel⟩
abbrev mX2_count : MI := (yX2_count, cX2_count, 3, some .int, 3, 41)
theorem zi_X2_count : zin mX2_count 0 := ⟨zm3 83 (by decide +kernel) rfl, (zm1 5 (by decide +kernel) rfl), ⟨by decide, by decide⟩, by decide +kernel⟩
abbrev mJ7_fill_53178 : MI := (yJ7_fill_53178, cJ7_fill_53178, 4, none, 1, 0)
theorem zi_J7_fill_53178 : zin mJ7_fill_53178 2 := ⟨zm1 50 (by decide +kernel) rfl, (zm1 4 (by decide +kernel) rfl), ⟨by decide, by decide⟩, by decide +kernel⟩
abbrev mX2_dropChanges : MI := (yX2_dropChanges, cX2_dropChanges, 1, none, 2, 23)
theorem zi_X2_dropChanges : zin mX2_dropChanges 0 := ⟨zm3 200 (by decide +kernel) rfl, (zm1 5 (by decide +kernel) rfl), ⟨by decide, by decide⟩, by decide +kernel⟩
abbrev mX2_close : MI := (yX2_close, cX2_close, 1, none, 3, 43)
theorem zi_X2_close : zin mX2_close 0 := ⟨zm3 196 (by decide +kernel) rfl, (zm1 5 (by decide +kernel) rfl), ⟨by decide, by decide⟩, by decide +kernel⟩
abbrev mX4_placeNumber : MI := (yX4_placeNumber, cX4_placeNumber, 2, some .int, 1, 0)
theorem zi_X4_placeNumber : zin mX4_placeNumber 2 := ⟨zm2 210 (by decide +kernel) rfl, (zm1 1 (by decide +kernel) rfl), ⟨by decide, by decide⟩, by decide +kernel⟩
abbrev mX4_isPlaceNumber : MI := (yX4_isPlaceNumber, cX4_isPlaceNumber, 1, some .boolean, 1, 0)
theorem zi_X4_isPlaceNumber : zin mX4_isPlaceNumber 1 := ⟨zm2 217 (by decide +kernel) rfl, (zm1 1 (by decide +kernel) rfl), ⟨by decide, by decide⟩, by decide +kernel⟩
abbrev mX0_isUsed : MI := (yX0_isUsed, cX0_isUsed, 2, some .boolean, 2, 20)
theorem zi_X0_isUsed : zin mX0_isUsed 1 := ⟨zm2 214 (by decide +kernel) rfl, (zm1 2 (by decide +kernel) rfl), ⟨by decide, by decide⟩, by decide +kernel⟩
abbrev mX0_countFree : MI := (yX0_countFree, cX0_countFree, 4, some .int, 3, 41)
theorem zi_X0_countFree : zin mX0_countFree 1 := ⟨zm3 10 (by decide +kernel) rfl, (zm1 2 (by decide +kernel) rfl), ⟨by decide, by decide⟩, by decide +kernel⟩
abbrev mX1_begin : MI := (yX1_begin, cX1_begin, 3, none, 4, 64)
theorem zi_X1_begin : zin mX1_begin 1 := ⟨zm3 92 (by decide +kernel) rfl, (zm1 6 (by decide +kernel) rfl), ⟨by decide, by decide⟩, by decide +kernel⟩
abbrev mX2_changes : MI := (yX2_changes, cX2_changes, 3, some .boolean, 3, 41)
theorem zi_X2_changes : zin mX2_changes 1 := ⟨zm3 98 (by decide +kernel) rfl, (zm1 5 (by decide +kernel) rfl), ⟨by decide, by decide⟩, by decide +kernel⟩
abbrev mX1_roomiestBeside : MI := (yX1_roomiestBeside, cX1_roomiestBeside, 5, some .int, 1, 0)
theorem zi_X1_roomiestBeside : zin mX1_roomiestBeside 1 := ⟨zm3 116 (by decide +kernel) rfl, (zm1 6 (by decide +kernel) rfl), ⟨by decide, by decide⟩, by decide +kernel⟩
abbrev mX4_isMirror : MI := (yX4_isMirror, cX4_isMirror, 1, some .boolean, 1, 0)
theorem zi_X4_isMirror : zin mX4_isMirror 1 := ⟨zm2 237 (by decide +kernel) rfl, (zm1 1 (by decide +kernel) rfl), ⟨by decide, by decide⟩, by decide +kernel⟩
abbrev mX4_isCell : MI := (yX4_isCell, cX4_isCell, 1, some .boolean, 1, 0)
theorem zi_X4_isCell : zin mX4_isCell 1 := ⟨zm2 206 (by decide +kernel) rfl, (zm1 1 (by decide +kernel) rfl), ⟨by decide, by decide⟩, by decide +kernel⟩
abbrev mX1_takeBeside : MI := (yX1_takeBeside, cX1_takeBeside, 5, some .int, 3, 41)
theorem zi_X1_takeBeside : zin mX1_takeBeside 2 := ⟨zm3 112 (by decide +kernel) rfl, (zm1 6 (by decide +kernel) rfl), ⟨by decide, by decide⟩, by decide +kernel⟩
abbrev mX1_choose : MI := (yX1_choose, cX1_choose, 5, some .boolean, 4, 65)
theorem zi_X1_choose : zin mX1_choose 3 := ⟨zm3 107 (by decide +kernel) rfl, (zm1 6 (by decide +kernel) rfl), ⟨by decide, by decide⟩, by decide +kernel⟩
abbrev mX4_hasData : MI := (yX4_hasData, cX4_hasData, 3, some .boolean, 4, 64)
theorem zi_X4_hasData : zin mX4_hasData 1 := ⟨zm3 125 (by decide +kernel) rfl, (zm1 1 (by decide +kernel) rfl), ⟨by decide, by decide⟩, by decide +kernel⟩
abbrev mX4_chooseForFile : MI := (yX4_chooseForFile, cX4_chooseForFile, 6, some .boolean, 5, 89)
theorem zi_X4_chooseForFile : zin mX4_chooseForFile 1 := ⟨zm3 103 (by decide +kernel) rfl, (zm1 1 (by decide +kernel) rfl), ⟨by decide, by decide⟩, by decide +kernel⟩
abbrev mX4_hasDataAnywhere : MI := (yX4_hasDataAnywhere, cX4_hasDataAnywhere, 2, some .boolean, 5, 86)
theorem zi_X4_hasDataAnywhere : zin mX4_hasDataAnywhere 0 := ⟨zm3 129 (by decide +kernel) rfl, (zm1 1 (by decide +kernel) rfl), ⟨by decide, by decide⟩, by decide +kernel⟩
abbrev mX4_choosePlaces : MI := (yX4_choosePlaces, cX4_choosePlaces, 2, some .boolean, 6, 114)
theorem zi_X4_choosePlaces : zin mX4_choosePlaces 0 := ⟨zm3 88 (by decide +kernel) rfl, (zm1 1 (by decide +kernel) rfl), ⟨by decide, by decide⟩, by decide +kernel⟩
abbrev mX3_keepValue : MI := (yX3_keepValue, cX3_keepValue, 3, none, 2, 20)
theorem zi_X3_keepValue : zin mX3_keepValue 2 := ⟨zm3 142 (by decide +kernel) rfl, (zm1 3 (by decide +kernel) rfl), ⟨by decide, by decide⟩, by decide +kernel⟩
abbrev mX1_firstFor : MI := (yX1_firstFor, cX1_firstFor, 2, some .int, 2, 20)
theorem zi_X1_firstFor : zin mX1_firstFor 1 := ⟨zm3 151 (by decide +kernel) rfl, (zm1 6 (by decide +kernel) rfl), ⟨by decide, by decide⟩, by decide +kernel⟩
abbrev mX1_secondFor : MI := (yX1_secondFor, cX1_secondFor, 2, some .int, 2, 20)
theorem zi_X1_secondFor : zin mX1_secondFor 1 := ⟨zm3 155 (by decide +kernel) rfl, (zm1 6 (by decide +kernel) rfl), ⟨by decide, by decide⟩, by decide +kernel⟩
abbrev mX3_point : MI := (yX3_point, cX3_point, 4, none, 2, 20)
theorem zi_X3_point : zin mX3_point 3 := ⟨zm3 163 (by decide +kernel) rfl, (zm1 3 (by decide +kernel) rfl), ⟨by decide, by decide⟩, by decide +kernel⟩
abbrev mX3_sign : MI := (yX3_sign, cX3_sign, 4, none, 2, 20)
theorem zi_X3_sign : zin mX3_sign 3 := ⟨zm3 167 (by decide +kernel) rfl, (zm1 3 (by decide +kernel) rfl), ⟨by decide, by decide⟩, by decide +kernel⟩
abbrev mX0_fill : MI := (yX0_fill, cX0_fill, 3, none, 3, 44)
theorem zi_X0_fill : zin mX0_fill 1 := ⟨zm3 173 (by decide +kernel) rfl, (zm1 2 (by decide +kernel) rfl), ⟨by decide, by decide⟩, by decide +kernel⟩
abbrev mX3_drop : MI := (yX3_drop, cX3_drop, 2, none, 3, 43)
theorem zi_X3_drop : zin mX3_drop 1 := ⟨zm3 159 (by decide +kernel) rfl, (zm1 3 (by decide +kernel) rfl), ⟨by decide, by decide⟩, by decide +kernel⟩
abbrev mX4_repoint : MI := (yX4_repoint, cX4_repoint, 5, some .int, 4, 66)
theorem zi_X4_repoint : zin mX4_repoint 2 := ⟨zm3 147 (by decide +kernel) rfl, (zm1 1 (by decide +kernel) rfl), ⟨by decide, by decide⟩, by decide +kernel⟩
abbrev mX3_checksumOf : MI := (yX3_checksumOf, cX3_checksumOf, 2, some .int, 2, 20)
theorem zi_X3_checksumOf : zin mX3_checksumOf 1 := ⟨zm3 69 (by decide +kernel) rfl, (zm1 3 (by decide +kernel) rfl), ⟨by decide, by decide⟩, by decide +kernel⟩
abbrev mX3_birthOf : MI := (yX3_birthOf, cX3_birthOf, 2, some .int, 2, 20)
theorem zi_X3_birthOf : zin mX3_birthOf 1 := ⟨zm2 182 (by decide +kernel) rfl, (zm1 3 (by decide +kernel) rfl), ⟨by decide, by decide⟩, by decide +kernel⟩
abbrev mX3_checksumOfNode : MI := (yX3_checksumOfNode, cX3_checksumOfNode, 6, some .int, 3, 41)
theorem zi_X3_checksumOfNode : zin mX3_checksumOfNode 2 := ⟨zm3 177 (by decide +kernel) rfl, (zm1 3 (by decide +kernel) rfl), ⟨by decide, by decide⟩, by decide +kernel⟩
abbrev mX4_writeFile : MI := (yX4_writeFile, cX4_writeFile, 6, some .int, 5, 90)
theorem zi_X4_writeFile : zin mX4_writeFile 1 := ⟨zm3 138 (by decide +kernel) rfl, (zm1 1 (by decide +kernel) rfl), ⟨by decide, by decide⟩, by decide +kernel⟩
abbrev mX4_writeChanges : MI := (yX4_writeChanges, cX4_writeChanges, 3, some .int, 6, 115)
theorem zi_X4_writeChanges : zin mX4_writeChanges 0 := ⟨zm3 134 (by decide +kernel) rfl, (zm1 1 (by decide +kernel) rfl), ⟨by decide, by decide⟩, by decide +kernel⟩
abbrev mX0_freeAll : MI := (yX0_freeAll, cX0_freeAll, 2, none, 1, 0)
theorem zi_X0_freeAll : zin mX0_freeAll 0 := ⟨zm3 188 (by decide +kernel) rfl, (zm1 2 (by decide +kernel) rfl), ⟨by decide, by decide⟩, by decide +kernel⟩
abbrev mX0_use : MI := (yX0_use, cX0_use, 2, none, 2, 20)
theorem zi_X0_use : zin mX0_use 1 := ⟨zm3 192 (by decide +kernel) rfl, (zm1 2 (by decide +kernel) rfl), ⟨by decide, by decide⟩, by decide +kernel⟩
abbrev mX4_freeWhatIsNotPointedTo : MI := (yX4_freeWhatIsNotPointedTo, cX4_freeWhatIsNotPointedTo, 3, none, 3, 42)
theorem zi_X4_freeWhatIsNotPointedTo : zin mX4_freeWhatIsNotPointedTo 0 := ⟨zm3 184 (by decide +kernel) rfl, (zm1 1 (by decide +kernel) rfl), ⟨by decide, by decide⟩, by decide +kernel⟩
abbrev mX4_sync : MI := (yX4_sync, cX4_sync, 2, some .int, 7, 137)
theorem zi_X4_sync : zin mX4_sync 0 := ⟨zm3 79 (by decide +kernel) rfl, (zm1 1 (by decide +kernel) rfl), ⟨by decide, by decide⟩, by decide +kernel⟩
abbrev mX4_abandon : MI := (yX4_abandon, cX4_abandon, 2, some .int, 4, 63)
theorem zi_X4_abandon : zin mX4_abandon 0 := ⟨zm3 204 (by decide +kernel) rfl, (zm1 1 (by decide +kernel) rfl), ⟨by decide, by decide⟩, by decide +kernel⟩
abbrev mX4_group : MI := (yX4_group, cX4_group, 1, some .int, 1, 0)
theorem zi_X4_group : zin mX4_group 0 := ⟨zm3 212 (by decide +kernel) rfl, (zm1 1 (by decide +kernel) rfl), ⟨by decide, by decide⟩, by decide +kernel⟩
abbrev mX4_buffered : MI := (yX4_buffered, cX4_buffered, 1, some .int, 4, 63)
theorem zi_X4_buffered : zin mX4_buffered 0 := ⟨zm3 216 (by decide +kernel) rfl, (zm1 1 (by decide +kernel) rfl), ⟨by decide, by decide⟩, by decide +kernel⟩
abbrev mX0_takeOffline : MI := (yX0_takeOffline, cX0_takeOffline, 4, none, 2, 21)
theorem zi_X0_takeOffline : zin mX0_takeOffline 3 := ⟨zm2 162 (by decide +kernel) rfl, (zm1 2 (by decide +kernel) rfl), ⟨by decide, by decide⟩, by decide +kernel⟩
abbrev mX4_offline : MI := (yX4_offline, cX4_offline, 4, none, 6, 100)
theorem zi_X4_offline : zin mX4_offline 2 := ⟨zm2 154 (by decide +kernel) rfl, (zm1 1 (by decide +kernel) rfl), ⟨by decide, by decide⟩, by decide +kernel⟩
abbrev mX0_outageOf : MI := (yX0_outageOf, cX0_outageOf, 3, some .int, 2, 21)
theorem zi_X0_outageOf : zin mX0_outageOf 2 := ⟨zm2 178 (by decide +kernel) rfl, (zm1 2 (by decide +kernel) rfl), ⟨by decide, by decide⟩, by decide +kernel⟩
abbrev mX4_copyToSide : MI := (yX4_copyToSide, cX4_copyToSide, 7, some .int, 4, 67)
theorem zi_X4_copyToSide : zin mX4_copyToSide 3 := ⟨zm2 186 (by decide +kernel) rfl, (zm1 1 (by decide +kernel) rfl), ⟨by decide, by decide⟩, by decide +kernel⟩
abbrev mX4_resilverFile : MI := (yX4_resilverFile, cX4_resilverFile, 8, some .int, 5, 93)
theorem zi_X4_resilverFile : zin mX4_resilverFile 3 := ⟨zm2 192 (by decide +kernel) rfl, (zm1 1 (by decide +kernel) rfl), ⟨by decide, by decide⟩, by decide +kernel⟩
abbrev mX4_resilver : MI := (yX4_resilver, cX4_resilver, 6, some .int, 6, 120)
theorem zi_X4_resilver : zin mX4_resilver 2 := ⟨zm2 174 (by decide +kernel) rfl, (zm1 1 (by decide +kernel) rfl), ⟨by decide, by decide⟩, by decide +kernel⟩
abbrev mX0_bringOnline : MI := (yX0_bringOnline, cX0_bringOnline, 3, none, 2, 21)
theorem zi_X0_bringOnline : zin mX0_bringOnline 2 := ⟨zm2 196 (by decide +kernel) rfl, (zm1 2 (by decide +kernel) rfl), ⟨by decide, by decide⟩, by decide +kernel⟩
abbrev mX4_online : MI := (yX4_online, cX4_online, 4, some .int, 7, 145)
theorem zi_X4_online : zin mX4_online 2 := ⟨zm2 169 (by decide +kernel) rfl, (zm1 1 (by decide +kernel) rfl), ⟨by decide, by decide⟩, by decide +kernel⟩
abbrev mX4_spoil : MI := (yX4_spoil, cX4_spoil, 6, some .boolean, 6, 100)
theorem zi_X4_spoil : zin mX4_spoil 3 := ⟨zm2 203 (by decide +kernel) rfl, (zm1 1 (by decide +kernel) rfl), ⟨by decide, by decide⟩, by decide +kernel⟩
abbrev mX4_isSpoilt : MI := (yX4_isSpoilt, cX4_isSpoilt, 4, some .boolean, 6, 100)
theorem zi_X4_isSpoilt : zin mX4_isSpoilt 3 := ⟨zm2 226 (by decide +kernel) rfl, (zm1 1 (by decide +kernel) rfl), ⟨by decide, by decide⟩, by decide +kernel⟩
abbrev mX4_isFree : MI := (yX4_isFree, cX4_isFree, 3, some .boolean, 6, 100)
theorem zi_X4_isFree : zin mX4_isFree 2 := ⟨zm2 234 (by decide +kernel) rfl, (zm1 1 (by decide +kernel) rfl), ⟨by decide, by decide⟩, by decide +kernel⟩
abbrev mX4_free : MI := (yX4_free, cX4_free, 2, some .int, 6, 100)
theorem zi_X4_free : zin mX4_free 1 := ⟨zm3 5 (by decide +kernel) rfl, (zm1 1 (by decide +kernel) rfl), ⟨by decide, by decide⟩, by decide +kernel⟩
abbrev mX4_healEveryCell : MI := (yX4_healEveryCell, cX4_healEveryCell, 6, some .int, 4, 66)
theorem zi_X4_healEveryCell : zin mX4_healEveryCell 1 := ⟨zm1 149 (by decide +kernel) rfl, (zm1 1 (by decide +kernel) rfl), ⟨by decide, by decide⟩, by decide +kernel⟩
abbrev mX4_scrubFile : MI := (yX4_scrubFile, cX4_scrubFile, 6, some .int, 5, 91)
theorem zi_X4_scrubFile : zin mX4_scrubFile 1 := ⟨zm1 172 (by decide +kernel) rfl, (zm1 1 (by decide +kernel) rfl), ⟨by decide, by decide⟩, by decide +kernel⟩
abbrev mX4_scrub : MI := (yX4_scrub, cX4_scrub, 3, some .int, 6, 116)
theorem zi_X4_scrub : zin mX4_scrub 0 := ⟨zm1 124 (by decide +kernel) rfl, (zm1 1 (by decide +kernel) rfl), ⟨by decide, by decide⟩, by decide +kernel⟩
abbrev mX4_healed : MI := (yX4_healed, cX4_healed, 1, some .int, 1, 0)
theorem zi_X4_healed : zin mX4_healed 0 := ⟨zm3 220 (by decide +kernel) rfl, (zm1 1 (by decide +kernel) rfl), ⟨by decide, by decide⟩, by decide +kernel⟩
abbrev mX4_lost : MI := (yX4_lost, cX4_lost, 6, some .int, 4, 67)
theorem zi_X4_lost : zin mX4_lost 0 := ⟨zm1 182 (by decide +kernel) rfl, (zm1 1 (by decide +kernel) rfl), ⟨by decide, by decide⟩, by decide +kernel⟩
abbrev mX3_countPlaces : MI := (yX3_countPlaces, cX3_countPlaces, 2, some .int, 4, 63)
theorem zi_X3_countPlaces : zin mX3_countPlaces 1 := ⟨zm3 23 (by decide +kernel) rfl, (zm1 3 (by decide +kernel) rfl), ⟨by decide, by decide⟩, by decide +kernel⟩
abbrev mX4_places : MI := (yX4_places, cX4_places, 3, some .int, 6, 100)
theorem zi_X4_places : zin mX4_places 2 := ⟨zm3 19 (by decide +kernel) rfl, (zm1 1 (by decide +kernel) rfl), ⟨by decide, by decide⟩, by decide +kernel⟩
abbrev mX4_told : MI := (yX4_told, cX4_told, 1, some .int, 6, 100)
theorem zi_X4_told : zin mX4_told 1 := ⟨zm3 34 (by decide +kernel) rfl, (zm1 1 (by decide +kernel) rfl), ⟨by decide, by decide⟩, by decide +kernel⟩
abbrev mX4_place : MI := (yX4_place, cX4_place, 4, some .int, 7, 120)
theorem zi_X4_place : zin mX4_place 3 := ⟨zm3 31 (by decide +kernel) rfl, (zm1 1 (by decide +kernel) rfl), ⟨by decide, by decide⟩, by decide +kernel⟩
abbrev mX4_nodePlace : MI := (yX4_nodePlace, cX4_nodePlace, 3, some .int, 7, 120)
theorem zi_X4_nodePlace : zin mX4_nodePlace 2 := ⟨zm3 43 (by decide +kernel) rfl, (zm1 1 (by decide +kernel) rfl), ⟨by decide, by decide⟩, by decide +kernel⟩
abbrev mX4_rootPlace : MI := (yX4_rootPlace, cX4_rootPlace, 2, some .int, 7, 120)
theorem zi_X4_rootPlace : zin mX4_rootPlace 1 := ⟨zm3 51 (by decide +kernel) rfl, (zm1 1 (by decide +kernel) rfl), ⟨by decide, by decide⟩, by decide +kernel⟩
abbrev mX4_birth : MI := (yX4_birth, cX4_birth, 3, some .int, 6, 100)
theorem zi_X4_birth : zin mX4_birth 2 := ⟨zm3 58 (by decide +kernel) rfl, (zm1 1 (by decide +kernel) rfl), ⟨by decide, by decide⟩, by decide +kernel⟩
abbrev mX4_checksum : MI := (yX4_checksum, cX4_checksum, 2, some .int, 6, 100)
theorem zi_X4_checksum : zin mX4_checksum 1 := ⟨zm3 65 (by decide +kernel) rfl, (zm1 1 (by decide +kernel) rfl), ⟨by decide, by decide⟩, by decide +kernel⟩
abbrev mX4_rootChecksum : MI := (yX4_rootChecksum, cX4_rootChecksum, 1, some .int, 3, 41)
theorem zi_X4_rootChecksum : zin mX4_rootChecksum 0 := ⟨zm3 224 (by decide +kernel) rfl, (zm1 1 (by decide +kernel) rfl), ⟨by decide, by decide⟩, by decide +kernel⟩
end
section
/-! ===== by program: what the instructions link ===== -/
theorem zu_X0 : ∀ w ∈ wsX00, w ∈ zTB := by
  have e : wsX00 = [u_lay RX0 TX0 0, u_lay RX0 TX0 1, u_lay RX0 TX0 2, u_lay RX0 TX0 3] := rfl
  rw [e]
  simp only [List.forall_mem_cons, List.not_mem_nil, false_imp_iff, implies_true, and_true]
  exact ⟨zm1 31 (by decide +kernel) rfl, zm1 33 (by decide +kernel) rfl, zm1 35 (by decide +kernel) rfl, zm1 37 (by decide +kernel) rfl⟩
theorem zu_X1 : ∀ w ∈ wsX10, w ∈ zTB := by
  have e : wsX10 = [u_lay RX1 TX1 0, u_lay RX1 TX1 1, u_lay RX1 TX1 2, u_lay RX1 TX1 3] := rfl
  rw [e]
  simp only [List.forall_mem_cons, List.not_mem_nil, false_imp_iff, implies_true, and_true]
  exact ⟨zm1 92 (by decide +kernel) rfl, zm1 94 (by decide +kernel) rfl, zm1 96 (by decide +kernel) rfl, zm1 98 (by decide +kernel) rfl⟩
theorem zu_X2 : ∀ w ∈ wsX20, w ∈ zTB := by
  have e : wsX20 = [u_lay RX2 TX2 0, u_lay RX2 TX2 1] := rfl
  rw [e]
  simp only [List.forall_mem_cons, List.not_mem_nil, false_imp_iff, implies_true, and_true]
  exact ⟨zm1 77 (by decide +kernel) rfl, zm1 79 (by decide +kernel) rfl⟩
theorem zu_X3 : ∀ w ∈ wsX30, w ∈ zTB := by
  have e : wsX30 = [u_lay RX3 TX3 0, u_lay RX3 TX3 1, u_lay RX3 TX3 2, u_lay RX3 TX3 3, u_lay RX3 TX3 4] := rfl
  rw [e]
  simp only [List.forall_mem_cons, List.not_mem_nil, false_imp_iff, implies_true, and_true]
  exact ⟨zm1 56 (by decide +kernel) rfl, zm1 58 (by decide +kernel) rfl, zm1 60 (by decide +kernel) rfl, zm1 62 (by decide +kernel) rfl, zm1 64 (by decide +kernel) rfl⟩
theorem zu_X4 : ∀ w ∈ wsX40, w ∈ zTB := by
  have e : wsX40 = [u_lay RX4 TX4 0, u_lay RX4 TX4 1, u_lay RX4 TX4 2, u_lay RX4 TX4 3, u_lay RX4 TX4 4, u_lay RX4 TX4 5] := rfl
  rw [e]
  simp only [List.forall_mem_cons, List.not_mem_nil, false_imp_iff, implies_true, and_true]
  exact ⟨zm1 108 (by decide +kernel) rfl, zm1 110 (by decide +kernel) rfl, zm1 112 (by decide +kernel) rfl, zm1 114 (by decide +kernel) rfl, zm1 116 (by decide +kernel) rfl, zm1 118 (by decide +kernel) rfl⟩
theorem zk_X0_25 : zlkN RX0 25 mX4_isSideOfMirror 2 := ⟨⟨RX4, List.mem_of_getElem? (i := 1) (by decide +kernel)⟩, (zm1 163 (by decide +kernel) rfl), zi_X4_isSideOfMirror⟩
theorem zk_X0_29 : zlkN RX0 29 mX4_isPlaceNumber 1 := ⟨⟨RX4, List.mem_of_getElem? (i := 2) (by decide +kernel)⟩, (zm2 216 (by decide +kernel) rfl), zi_X4_isPlaceNumber⟩
theorem zk_X0_33 : zlkN RX0 33 mX4_placeNumber 2 := ⟨⟨RX4, List.mem_of_getElem? (i := 3) (by decide +kernel)⟩, (zm2 209 (by decide +kernel) rfl), zi_X4_placeNumber⟩
theorem zk_X0_37 : zlkV RX0 37 mX0_isUsed 1 0 := ⟨_, rfl, (zm3 12 (by decide +kernel) rfl), (zm2 212 (by decide +kernel) rfl), (zm2 213 (by decide +kernel) rfl), zi_X0_isUsed⟩
theorem zk_X0_40 : zlkN RX0 40 mX4_isCellOnSide 2 := ⟨⟨RX4, List.mem_of_getElem? (i := 4) (by decide +kernel)⟩, (zm1 141 (by decide +kernel) rfl), zi_X4_isCellOnSide⟩
theorem zk_X0_43 : zlkN RX0 43 mX4_mirrorOf 1 := ⟨⟨RX4, List.mem_of_getElem? (i := 5) (by decide +kernel)⟩, (zm1 144 (by decide +kernel) rfl), zi_X4_mirrorOf⟩
theorem zk_X0_47 : zlkV RX0 47 mX0_hasSpoilt 2 0 := ⟨_, rfl, (zm1 154 (by decide +kernel) rfl), (zm1 155 (by decide +kernel) rfl), (zm1 156 (by decide +kernel) rfl), zi_X0_hasSpoilt⟩
theorem zk_X0_50 : zlkV RX0 50 mX0_hasOnline 2 0 := ⟨_, rfl, (zm1 158 (by decide +kernel) rfl), (zm1 159 (by decide +kernel) rfl), (zm1 160 (by decide +kernel) rfl), zi_X0_hasOnline⟩
theorem zk_X0_53 : zlkV RX0 53 mX0_mark 3 0 := ⟨_, rfl, (zm1 165 (by decide +kernel) rfl), (zm1 166 (by decide +kernel) rfl), (zm1 167 (by decide +kernel) rfl), zi_X0_mark⟩
theorem zk_X1_24 : zlkS RX1 24 mJ7_fill_53178 2 := ⟨(zm3 93 (by decide +kernel) rfl), (zm1 49 (by decide +kernel) rfl), zi_J7_fill_53178⟩
theorem zk_X1_30 : zlkV RX1 30 mX0_countFree 1 0 := ⟨_, rfl, (zm3 94 (by decide +kernel) rfl), (zm3 8 (by decide +kernel) rfl), (zm3 9 (by decide +kernel) rfl), zi_X0_countFree⟩
theorem zk_X1_36 : zlkN RX1 36 mX4_isPointer 1 := ⟨⟨RX4, List.mem_of_getElem? (i := 6) (by decide +kernel)⟩, (zm1 134 (by decide +kernel) rfl), zi_X4_isPointer⟩
theorem zk_X1_40 : zlkV RX1 40 mX1_takeBeside 2 1 := ⟨_, rfl, (zm3 109 (by decide +kernel) rfl), (zm3 111 (by decide +kernel) rfl), (zms 12 (by decide +kernel) rfl), zi_X1_takeBeside⟩
theorem zk_X1_44 : zlkN RX1 44 mX4_mirrorOf 1 := ⟨⟨RX4, List.mem_of_getElem? (i := 7) (by decide +kernel)⟩, (zm1 144 (by decide +kernel) rfl), zi_X4_mirrorOf⟩
theorem zk_X1_47 : zlkV RX1 47 mX1_roomiestBeside 1 1 := ⟨_, rfl, (zm3 113 (by decide +kernel) rfl), (zm3 115 (by decide +kernel) rfl), (zms 13 (by decide +kernel) rfl), zi_X1_roomiestBeside⟩
theorem zk_X1_50 : zlkN RX1 50 mX4_isMirror 1 := ⟨⟨RX4, List.mem_of_getElem? (i := 8) (by decide +kernel)⟩, (zm2 236 (by decide +kernel) rfl), zi_X4_isMirror⟩
theorem zk_X1_53 : zlkN RX1 53 mX4_placeNumber 2 := ⟨⟨RX4, List.mem_of_getElem? (i := 9) (by decide +kernel)⟩, (zm2 209 (by decide +kernel) rfl), zi_X4_placeNumber⟩
theorem zk_X1_57 : zlkV RX1 57 mX0_isUsed 1 0 := ⟨_, rfl, (zm3 119 (by decide +kernel) rfl), (zm2 212 (by decide +kernel) rfl), (zm2 213 (by decide +kernel) rfl), zi_X0_isUsed⟩
theorem zk_X1_60 : zlkN RX1 60 mX4_isCell 1 := ⟨⟨RX4, List.mem_of_getElem? (i := 10) (by decide +kernel)⟩, (zm2 205 (by decide +kernel) rfl), zi_X4_isCell⟩
theorem zk_X2_15 : zlkS RX2 15 mJ7_fill_53178 2 := ⟨(zm1 73 (by decide +kernel) rfl), (zm1 49 (by decide +kernel) rfl), zi_J7_fill_53178⟩
theorem zk_X2_25 : zlkN RX2 25 mX4_isBlockPointer 1 := ⟨⟨RX4, List.mem_of_getElem? (i := 11) (by decide +kernel)⟩, (zm2 50 (by decide +kernel) rfl), zi_X4_isBlockPointer⟩
theorem zk_X2_29 : zlkN RX2 29 mX4_blockPointer 2 := ⟨⟨RX4, List.mem_of_getElem? (i := 12) (by decide +kernel)⟩, (zm1 177 (by decide +kernel) rfl), zi_X4_blockPointer⟩
theorem zk_X2_33 : zlkV RX2 33 mX2_holds 1 2 := ⟨_, rfl, (zm3 84 (by decide +kernel) rfl), (zm2 46 (by decide +kernel) rfl), (zm2 47 (by decide +kernel) rfl), zi_X2_holds⟩
theorem zk_X2_36 : zlkV RX2 36 mX2_dropChanges 0 2 := ⟨_, rfl, (zm3 197 (by decide +kernel) rfl), (zm3 198 (by decide +kernel) rfl), (zm3 199 (by decide +kernel) rfl), zi_X2_dropChanges⟩
theorem zk_X3_33 : zlkN RX3 33 mX4_isBlockPointer 1 := ⟨⟨RX4, List.mem_of_getElem? (i := 13) (by decide +kernel)⟩, (zm2 50 (by decide +kernel) rfl), zi_X4_isBlockPointer⟩
theorem zk_X3_37 : zlkV RX3 37 mX3_placeOf 2 3 := ⟨_, rfl, (zm1 187 (by decide +kernel) rfl), (zm1 130 (by decide +kernel) rfl), (zm1 131 (by decide +kernel) rfl), zi_X3_placeOf⟩
theorem zk_X3_41 : zlkN RX3 41 mX4_isPointer 1 := ⟨⟨RX4, List.mem_of_getElem? (i := 14) (by decide +kernel)⟩, (zm1 134 (by decide +kernel) rfl), zi_X4_isPointer⟩
theorem zk_X3_44 : zlkV RX3 44 mX3_isMissing 1 3 := ⟨_, rfl, (zm3 24 (by decide +kernel) rfl), (zm1 184 (by decide +kernel) rfl), (zm1 185 (by decide +kernel) rfl), zi_X3_isMissing⟩
theorem zk_X3_47 : zlkV RX3 47 mX3_checksumOf 1 3 := ⟨_, rfl, (zm3 178 (by decide +kernel) rfl), (zm3 67 (by decide +kernel) rfl), (zm3 68 (by decide +kernel) rfl), zi_X3_checksumOf⟩
theorem zk_X3_51 : zlkV RX3 51 mX3_birthOf 1 3 := ⟨_, rfl, (zm3 179 (by decide +kernel) rfl), (zm2 180 (by decide +kernel) rfl), (zm2 181 (by decide +kernel) rfl), zi_X3_birthOf⟩
theorem zk_X3_55 : zlkV RX3 55 mX3_point 3 3 := ⟨_, rfl, (zm3 160 (by decide +kernel) rfl), (zm3 161 (by decide +kernel) rfl), (zm3 162 (by decide +kernel) rfl), zi_X3_point⟩
theorem zk_X3_59 : zlkV RX3 59 mX3_sign 3 3 := ⟨_, rfl, (zm3 164 (by decide +kernel) rfl), (zm3 165 (by decide +kernel) rfl), (zm3 166 (by decide +kernel) rfl), zi_X3_sign⟩
theorem zk_X4_104 : zlkV RX4 104 mX4_healUpToGoodCell 1 4 := ⟨_, rfl, (zm2 111 (by decide +kernel) rfl), (zm2 113 (by decide +kernel) rfl), (zms 6 (by decide +kernel) rfl), zi_X4_healUpToGoodCell⟩
theorem zk_X4_107 : zlkV RX4 107 mX3_valueOf 1 3 := ⟨_, rfl, (zm2 56 (by decide +kernel) rfl), (zm2 57 (by decide +kernel) rfl), (zm2 58 (by decide +kernel) rfl), zi_X3_valueOf⟩
theorem zk_X4_115 : zlkV RX4 115 mX2_count 0 2 := ⟨_, rfl, (zm3 80 (by decide +kernel) rfl), (zm3 81 (by decide +kernel) rfl), (zm3 82 (by decide +kernel) rfl), zi_X2_count⟩
theorem zk_X4_119 : zlkV RX4 119 mX4_choosePlaces 0 4 := ⟨_, rfl, (zm3 85 (by decide +kernel) rfl), (zm3 87 (by decide +kernel) rfl), (zms 10 (by decide +kernel) rfl), zi_X4_choosePlaces⟩
theorem zk_X4_125 : zlkV RX4 125 mX4_writeChanges 0 4 := ⟨_, rfl, (zm3 131 (by decide +kernel) rfl), (zm3 133 (by decide +kernel) rfl), (zms 16 (by decide +kernel) rfl), zi_X4_writeChanges⟩
theorem zk_X4_128 : zlkV RX4 128 mX4_freeWhatIsNotPointedTo 0 4 := ⟨_, rfl, (zm3 181 (by decide +kernel) rfl), (zm3 183 (by decide +kernel) rfl), (zms 19 (by decide +kernel) rfl), zi_X4_freeWhatIsNotPointedTo⟩
theorem zk_X4_131 : zlkV RX4 131 mX2_close 0 2 := ⟨_, rfl, (zm3 193 (by decide +kernel) rfl), (zm3 194 (by decide +kernel) rfl), (zm3 195 (by decide +kernel) rfl), zi_X2_close⟩
theorem zk_X4_134 : zlkV RX4 134 mX2_dropChanges 0 2 := ⟨_, rfl, (zm3 205 (by decide +kernel) rfl), (zm3 198 (by decide +kernel) rfl), (zm3 199 (by decide +kernel) rfl), zi_X2_dropChanges⟩
theorem zk_X4_140 : zlkS RX4 140 mX4_isSideOfMirror 2 := ⟨(zm2 155 (by decide +kernel) rfl), (zm1 163 (by decide +kernel) rfl), zi_X4_isSideOfMirror⟩
theorem zk_X4_145 : zlkV RX4 145 mX0_hasOnline 2 0 := ⟨_, rfl, (zm2 157 (by decide +kernel) rfl), (zm1 159 (by decide +kernel) rfl), (zm1 160 (by decide +kernel) rfl), zi_X0_hasOnline⟩
theorem zk_X4_150 : zlkV RX4 150 mX0_takeOffline 3 0 := ⟨_, rfl, (zm2 159 (by decide +kernel) rfl), (zm2 160 (by decide +kernel) rfl), (zm2 161 (by decide +kernel) rfl), zi_X0_takeOffline⟩
theorem zk_X4_156 : zlkV RX4 156 mX4_resilver 2 4 := ⟨_, rfl, (zm2 171 (by decide +kernel) rfl), (zm2 173 (by decide +kernel) rfl), (zms 7 (by decide +kernel) rfl), zi_X4_resilver⟩
theorem zk_X4_159 : zlkV RX4 159 mX0_bringOnline 2 0 := ⟨_, rfl, (zm2 193 (by decide +kernel) rfl), (zm2 194 (by decide +kernel) rfl), (zm2 195 (by decide +kernel) rfl), zi_X0_bringOnline⟩
theorem zk_X4_162 : zlkS RX4 162 mX4_isCell 1 := ⟨(zm2 204 (by decide +kernel) rfl), (zm2 205 (by decide +kernel) rfl), zi_X4_isCell⟩
theorem zk_X4_167 : zlkS RX4 167 mX4_placeNumber 2 := ⟨(zm2 208 (by decide +kernel) rfl), (zm2 209 (by decide +kernel) rfl), zi_X4_placeNumber⟩
theorem zk_X4_170 : zlkV RX4 170 mX0_isUsed 1 0 := ⟨_, rfl, (zm2 211 (by decide +kernel) rfl), (zm2 212 (by decide +kernel) rfl), (zm2 213 (by decide +kernel) rfl), zi_X0_isUsed⟩
theorem zk_X4_175 : zlkV RX4 175 mX0_hasSpoilt 2 0 := ⟨_, rfl, (zm2 219 (by decide +kernel) rfl), (zm1 155 (by decide +kernel) rfl), (zm1 156 (by decide +kernel) rfl), zi_X0_hasSpoilt⟩
theorem zk_X4_178 : zlkV RX4 178 mX0_mark 3 0 := ⟨_, rfl, (zm2 188 (by decide +kernel) rfl), (zm1 166 (by decide +kernel) rfl), (zm1 167 (by decide +kernel) rfl), zi_X0_mark⟩
theorem zk_X4_184 : zlkS RX4 184 mX4_isMirror 1 := ⟨(zm2 235 (by decide +kernel) rfl), (zm2 236 (by decide +kernel) rfl), zi_X4_isMirror⟩
theorem zk_X4_191 : zlkV RX4 191 mX0_countFree 1 0 := ⟨_, rfl, (zm3 7 (by decide +kernel) rfl), (zm3 8 (by decide +kernel) rfl), (zm3 9 (by decide +kernel) rfl), zi_X0_countFree⟩
theorem zk_X4_194 : zlkV RX4 194 mX4_canFetch 1 4 := ⟨_, rfl, (zm1 125 (by decide +kernel) rfl), (zm1 127 (by decide +kernel) rfl), (zms 0 (by decide +kernel) rfl), zi_X4_canFetch⟩
theorem zk_X4_197 : zlkV RX4 197 mX4_healEveryCell 1 4 := ⟨_, rfl, (zm1 146 (by decide +kernel) rfl), (zm1 148 (by decide +kernel) rfl), (zms 1 (by decide +kernel) rfl), zi_X4_healEveryCell⟩
theorem zk_X4_200 : zlkV RX4 200 mX4_scrubFile 1 4 := ⟨_, rfl, (zm1 169 (by decide +kernel) rfl), (zm1 171 (by decide +kernel) rfl), (zms 2 (by decide +kernel) rfl), zi_X4_scrubFile⟩
theorem zk_X4_203 : zlkV RX4 203 mX3_isMissing 1 3 := ⟨_, rfl, (zm1 183 (by decide +kernel) rfl), (zm1 184 (by decide +kernel) rfl), (zm1 185 (by decide +kernel) rfl), zi_X3_isMissing⟩
theorem zk_X4_206 : zlkV RX4 206 mX3_countPlaces 1 3 := ⟨_, rfl, (zm3 20 (by decide +kernel) rfl), (zm3 21 (by decide +kernel) rfl), (zm3 22 (by decide +kernel) rfl), zi_X3_countPlaces⟩
theorem zk_X4_209 : zlkV RX4 209 mX3_placeOf 2 3 := ⟨_, rfl, (zm1 129 (by decide +kernel) rfl), (zm1 130 (by decide +kernel) rfl), (zm1 131 (by decide +kernel) rfl), zi_X3_placeOf⟩
theorem zk_X4_212 : zlkS RX4 212 mX4_told 1 := ⟨(zm3 32 (by decide +kernel) rfl), (zm3 33 (by decide +kernel) rfl), zi_X4_told⟩
theorem zk_X4_217 : zlkV RX4 217 mX3_birthOf 1 3 := ⟨_, rfl, (zm2 179 (by decide +kernel) rfl), (zm2 180 (by decide +kernel) rfl), (zm2 181 (by decide +kernel) rfl), zi_X3_birthOf⟩
theorem zk_X4_220 : zlkV RX4 220 mX3_checksumOf 1 3 := ⟨_, rfl, (zm3 66 (by decide +kernel) rfl), (zm3 67 (by decide +kernel) rfl), (zm3 68 (by decide +kernel) rfl), zi_X3_checksumOf⟩
theorem zk_X4_223 : zlkS RX4 223 mX4_isPlaceNumber 1 := ⟨(zm3 35 (by decide +kernel) rfl), (zm2 216 (by decide +kernel) rfl), zi_X4_isPlaceNumber⟩
theorem zk_X4_228 : zlkS RX4 228 mX4_mirrorOf 1 := ⟨(zm2 187 (by decide +kernel) rfl), (zm1 144 (by decide +kernel) rfl), zi_X4_mirrorOf⟩
theorem zk_X4_231 : zlkV RX4 231 mX4_hasData 1 4 := ⟨_, rfl, (zm3 122 (by decide +kernel) rfl), (zm3 124 (by decide +kernel) rfl), (zms 14 (by decide +kernel) rfl), zi_X4_hasData⟩
theorem zk_X4_234 : zlkV RX4 234 mX0_isGood 2 0 := ⟨_, rfl, (zm1 136 (by decide +kernel) rfl), (zm1 137 (by decide +kernel) rfl), (zm1 138 (by decide +kernel) rfl), zi_X0_isGood⟩
theorem zk_X4_237 : zlkV RX4 237 mX0_heal 2 0 := ⟨_, rfl, (zm1 150 (by decide +kernel) rfl), (zm1 151 (by decide +kernel) rfl), (zm1 152 (by decide +kernel) rfl), zi_X0_heal⟩
theorem zk_X4_240 : zlkV RX4 240 mX1_begin 1 1 := ⟨_, rfl, (zm3 89 (by decide +kernel) rfl), (zm3 90 (by decide +kernel) rfl), (zm3 91 (by decide +kernel) rfl), zi_X1_begin⟩
theorem zk_X4_244 : zlkV RX4 244 mX2_changes 1 2 := ⟨_, rfl, (zm3 95 (by decide +kernel) rfl), (zm3 96 (by decide +kernel) rfl), (zm3 97 (by decide +kernel) rfl), zi_X2_changes⟩
theorem zk_X4_247 : zlkV RX4 247 mX4_chooseForFile 1 4 := ⟨_, rfl, (zm3 100 (by decide +kernel) rfl), (zm3 102 (by decide +kernel) rfl), (zms 11 (by decide +kernel) rfl), zi_X4_chooseForFile⟩
theorem zk_X4_250 : zlkV RX4 250 mX4_hasDataAnywhere 0 4 := ⟨_, rfl, (zm3 126 (by decide +kernel) rfl), (zm3 128 (by decide +kernel) rfl), (zms 15 (by decide +kernel) rfl), zi_X4_hasDataAnywhere⟩
theorem zk_X4_253 : zlkV RX4 253 mX1_choose 3 1 := ⟨_, rfl, (zm3 104 (by decide +kernel) rfl), (zm3 105 (by decide +kernel) rfl), (zm3 106 (by decide +kernel) rfl), zi_X1_choose⟩
theorem zk_X4_257 : zlkV RX4 257 mX4_writeFile 1 4 := ⟨_, rfl, (zm3 135 (by decide +kernel) rfl), (zm3 137 (by decide +kernel) rfl), (zms 17 (by decide +kernel) rfl), zi_X4_writeFile⟩
theorem zk_X4_260 : zlkV RX4 260 mX3_checksumOfNode 2 3 := ⟨_, rfl, (zm3 174 (by decide +kernel) rfl), (zm3 175 (by decide +kernel) rfl), (zm3 176 (by decide +kernel) rfl), zi_X3_checksumOfNode⟩
theorem zk_X4_263 : zlkV RX4 263 mX4_repoint 2 4 := ⟨_, rfl, (zm3 144 (by decide +kernel) rfl), (zm3 146 (by decide +kernel) rfl), (zms 18 (by decide +kernel) rfl), zi_X4_repoint⟩
theorem zk_X4_266 : zlkV RX4 266 mX3_keepValue 2 3 := ⟨_, rfl, (zm3 139 (by decide +kernel) rfl), (zm3 140 (by decide +kernel) rfl), (zm3 141 (by decide +kernel) rfl), zi_X3_keepValue⟩
theorem zk_X4_270 : zlkV RX4 270 mX1_firstFor 1 1 := ⟨_, rfl, (zm3 148 (by decide +kernel) rfl), (zm3 149 (by decide +kernel) rfl), (zm3 150 (by decide +kernel) rfl), zi_X1_firstFor⟩
theorem zk_X4_273 : zlkV RX4 273 mX1_secondFor 1 1 := ⟨_, rfl, (zm3 152 (by decide +kernel) rfl), (zm3 153 (by decide +kernel) rfl), (zm3 154 (by decide +kernel) rfl), zi_X1_secondFor⟩
theorem zk_X4_276 : zlkV RX4 276 mX3_drop 1 3 := ⟨_, rfl, (zm3 156 (by decide +kernel) rfl), (zm3 157 (by decide +kernel) rfl), (zm3 158 (by decide +kernel) rfl), zi_X3_drop⟩
theorem zk_X4_280 : zlkV RX4 280 mX3_point 3 3 := ⟨_, rfl, (zm3 168 (by decide +kernel) rfl), (zm3 161 (by decide +kernel) rfl), (zm3 162 (by decide +kernel) rfl), zi_X3_point⟩
theorem zk_X4_283 : zlkV RX4 283 mX3_sign 3 3 := ⟨_, rfl, (zm3 169 (by decide +kernel) rfl), (zm3 165 (by decide +kernel) rfl), (zm3 166 (by decide +kernel) rfl), zi_X3_sign⟩
theorem zk_X4_286 : zlkV RX4 286 mX0_fill 1 0 := ⟨_, rfl, (zm3 170 (by decide +kernel) rfl), (zm3 171 (by decide +kernel) rfl), (zm3 172 (by decide +kernel) rfl), zi_X0_fill⟩
theorem zk_X4_288 : zlkV RX4 288 mX0_freeAll 0 0 := ⟨_, rfl, (zm3 185 (by decide +kernel) rfl), (zm3 186 (by decide +kernel) rfl), (zm3 187 (by decide +kernel) rfl), zi_X0_freeAll⟩
theorem zk_X4_291 : zlkV RX4 291 mX0_use 1 0 := ⟨_, rfl, (zm3 189 (by decide +kernel) rfl), (zm3 190 (by decide +kernel) rfl), (zm3 191 (by decide +kernel) rfl), zi_X0_use⟩
theorem zk_X4_294 : zlkV RX4 294 mX0_outageOf 2 0 := ⟨_, rfl, (zm2 175 (by decide +kernel) rfl), (zm2 176 (by decide +kernel) rfl), (zm2 177 (by decide +kernel) rfl), zi_X0_outageOf⟩
theorem zk_X4_297 : zlkV RX4 297 mX4_copyToSide 3 4 := ⟨_, rfl, (zm2 183 (by decide +kernel) rfl), (zm2 185 (by decide +kernel) rfl), (zms 8 (by decide +kernel) rfl), zi_X4_copyToSide⟩
theorem zk_X4_301 : zlkV RX4 301 mX4_resilverFile 3 4 := ⟨_, rfl, (zm2 189 (by decide +kernel) rfl), (zm2 191 (by decide +kernel) rfl), (zms 9 (by decide +kernel) rfl), zi_X4_resilverFile⟩
theorem zk_X4_51 : zlkS RX4 51 mX4_isBlockOfFile 2 := ⟨(zm1 204 (by decide +kernel) rfl), (zm1 205 (by decide +kernel) rfl), zi_X4_isBlockOfFile⟩
theorem zk_X4_62 : zlkV RX4 62 mX4_valueNow 2 4 := ⟨_, rfl, (zm2 41 (by decide +kernel) rfl), (zm2 43 (by decide +kernel) rfl), (zms 4 (by decide +kernel) rfl), zi_X4_valueNow⟩
theorem zk_X4_66 : zlkS RX4 66 mX4_blockPointer 2 := ⟨(zm1 176 (by decide +kernel) rfl), (zm1 177 (by decide +kernel) rfl), zi_X4_blockPointer⟩
theorem zk_X4_69 : zlkV RX4 69 mX2_change 2 2 := ⟨_, rfl, (zm2 61 (by decide +kernel) rfl), (zm2 62 (by decide +kernel) rfl), (zm2 63 (by decide +kernel) rfl), zi_X2_change⟩
theorem zk_X4_73 : zlkS RX4 73 mX4_isBlock 1 := ⟨(zm1 210 (by decide +kernel) rfl), (zm1 211 (by decide +kernel) rfl), zi_X4_isBlock⟩
theorem zk_X4_79 : zlkS RX4 79 mX4_isFile 1 := ⟨(zm1 207 (by decide +kernel) rfl), (zm1 208 (by decide +kernel) rfl), zi_X4_isFile⟩
theorem zk_X4_86 : zlkV RX4 86 mX2_holds 1 2 := ⟨_, rfl, (zm2 45 (by decide +kernel) rfl), (zm2 46 (by decide +kernel) rfl), (zm2 47 (by decide +kernel) rfl), zi_X2_holds⟩
theorem zk_X4_89 : zlkV RX4 89 mX2_changeOf 1 2 := ⟨_, rfl, (zm2 52 (by decide +kernel) rfl), (zm2 53 (by decide +kernel) rfl), (zm2 54 (by decide +kernel) rfl), zi_X2_changeOf⟩
theorem zk_X4_93 : zlkS RX4 93 mX4_filePointer 1 := ⟨(zm1 173 (by decide +kernel) rfl), (zm1 174 (by decide +kernel) rfl), zi_X4_filePointer⟩
theorem zk_X4_96 : zlkV RX4 96 mX4_isUnreadable 1 4 := ⟨_, rfl, (zm2 91 (by decide +kernel) rfl), (zm2 93 (by decide +kernel) rfl), (zms 5 (by decide +kernel) rfl), zi_X4_isUnreadable⟩
theorem zf_X0_15 : zfg RX0 15 0 1 := ⟨RX0, TX0, 4, "", rfl, zu_X0, by decide, Or.inl (zm1 28 (by decide +kernel) rfl)⟩
theorem zf_X0_18 : zfg RX0 18 0 2 := ⟨RX0, TX0, 4, "", rfl, zu_X0, by decide, Or.inl (zm1 29 (by decide +kernel) rfl)⟩
theorem zf_X0_21 : zfg RX0 21 0 3 := ⟨RX0, TX0, 4, "", rfl, zu_X0, by decide, Or.inl (zm1 30 (by decide +kernel) rfl)⟩
theorem zf_X0_9 : zfg RX0 9 0 0 := ⟨RX0, TX0, 4, "", rfl, zu_X0, by decide, Or.inl (zm1 27 (by decide +kernel) rfl)⟩
theorem zf_X1_15 : zfg RX1 15 1 1 := ⟨RX1, TX1, 4, "", rfl, zu_X1, by decide, Or.inl (zm1 89 (by decide +kernel) rfl)⟩
theorem zf_X1_18 : zfg RX1 18 1 2 := ⟨RX1, TX1, 4, "", rfl, zu_X1, by decide, Or.inl (zm1 90 (by decide +kernel) rfl)⟩
theorem zf_X1_21 : zfg RX1 21 1 3 := ⟨RX1, TX1, 4, "", rfl, zu_X1, by decide, Or.inl (zm1 91 (by decide +kernel) rfl)⟩
theorem zf_X1_9 : zfg RX1 9 1 0 := ⟨RX1, TX1, 4, "", rfl, zu_X1, by decide, Or.inl (zm1 88 (by decide +kernel) rfl)⟩
theorem zf_X2_21 : zfg RX2 21 2 1 := ⟨RX2, TX2, 2, "", rfl, zu_X2, by decide, Or.inl (zm1 75 (by decide +kernel) rfl)⟩
theorem zf_X2_9 : zfg RX2 9 2 0 := ⟨RX2, TX2, 2, "", rfl, zu_X2, by decide, Or.inl (zm1 74 (by decide +kernel) rfl)⟩
theorem zf_X3_21 : zfg RX3 21 3 1 := ⟨RX3, TX3, 5, "", rfl, zu_X3, by decide, Or.inl (zm1 52 (by decide +kernel) rfl)⟩
theorem zf_X3_24 : zfg RX3 24 3 2 := ⟨RX3, TX3, 5, "", rfl, zu_X3, by decide, Or.inl (zm1 53 (by decide +kernel) rfl)⟩
theorem zf_X3_27 : zfg RX3 27 3 3 := ⟨RX3, TX3, 5, "", rfl, zu_X3, by decide, Or.inl (zm1 54 (by decide +kernel) rfl)⟩
theorem zf_X3_30 : zfg RX3 30 3 4 := ⟨RX3, TX3, 5, "", rfl, zu_X3, by decide, Or.inl (zm1 55 (by decide +kernel) rfl)⟩
theorem zf_X3_9 : zfg RX3 9 3 0 := ⟨RX3, TX3, 5, "", rfl, zu_X3, by decide, Or.inl (zm1 51 (by decide +kernel) rfl)⟩
theorem zf_X4_12 : zfg RX4 12 4 0 := ⟨RX4, TX4, 6, "", rfl, zu_X4, by decide, Or.inl (zm1 102 (by decide +kernel) rfl)⟩
theorem zf_X4_137 : zfg RX4 137 2 1 := ⟨RX2, TX2, 2, RX4, rfl, zu_X2, by decide, Or.inr (List.mem_of_getElem? (i := 0) rfl)⟩
theorem zf_X4_19 : zfg RX4 19 4 1 := ⟨RX4, TX4, 6, "", rfl, zu_X4, by decide, Or.inl (zm1 103 (by decide +kernel) rfl)⟩
theorem zf_X4_26 : zfg RX4 26 4 2 := ⟨RX4, TX4, 6, "", rfl, zu_X4, by decide, Or.inl (zm1 104 (by decide +kernel) rfl)⟩
theorem zf_X4_33 : zfg RX4 33 4 3 := ⟨RX4, TX4, 6, "", rfl, zu_X4, by decide, Or.inl (zm1 105 (by decide +kernel) rfl)⟩
theorem zf_X4_37 : zfg RX4 37 4 4 := ⟨RX4, TX4, 6, "", rfl, zu_X4, by decide, Or.inl (zm1 106 (by decide +kernel) rfl)⟩
theorem zf_X4_47 : zfg RX4 47 4 5 := ⟨RX4, TX4, 6, "", rfl, zu_X4, by decide, Or.inl (zm1 107 (by decide +kernel) rfl)⟩
theorem zp_X2_21 : zfp RX2 21 2 1 := ⟨RX2, TX2, 2, tyX2, rfl, zu_X2, by decide, (zm1 75 (by decide +kernel) rfl), tyX2_ok, nmX2, by decide, by decide +kernel⟩
theorem zp_X4_47 : zfp RX4 47 4 5 := ⟨RX4, TX4, 6, tyX4, rfl, zu_X4, by decide, (zm1 107 (by decide +kernel) rfl), tyX4_ok, nmX4, by decide, by decide +kernel⟩
theorem zt_55 : zth RX4 55 59 "java/lang/IllegalArgumentException" ["java/lang/RuntimeException", "java/lang/Exception"] := ⟨by decide +kernel, by decide +kernel, (zm1 213 (by decide +kernel) rfl), (zm1 10 (by decide +kernel) rfl), fun w hw => zTB_of ((by decide +kernel : ∀ w ∈ (vx_atS RX4 59 "java/lang/IllegalArgumentException" ["java/lang/RuntimeException", "java/lang/Exception"]).filter goodWord, w ∈ lw_tbl) w hw) (List.mem_filter.mp hw).2, by decide +kernel, by decide +kernel⟩
theorem zt_99 : zth RX4 99 103 "java/lang/IllegalStateException" ["java/lang/RuntimeException", "java/lang/Exception"] := ⟨by decide +kernel, by decide +kernel, (zm2 95 (by decide +kernel) rfl), (zm1 11 (by decide +kernel) rfl), fun w hw => zTB_of ((by decide +kernel : ∀ w ∈ (vx_atS RX4 103 "java/lang/IllegalStateException" ["java/lang/RuntimeException", "java/lang/Exception"]).filter goodWord, w ∈ lw_tbl) w hw) (List.mem_filter.mp hw).2, by decide +kernel, by decide +kernel⟩
end
section
theorem dX4_isFile_0 : decode cX4_isFile 0 = .ok (.iload_n 0, 1) := by decide +kernel
theorem dX4_isFile_1 : decode cX4_isFile 1 = .ok (.ifCond .lt 12, 3) := by decide +kernel
theorem dX4_isFile_4 : decode cX4_isFile 4 = .ok (.iload_n 0, 1) := by decide +kernel
theorem dX4_isFile_5 : decode cX4_isFile 5 = .ok (.iconst 4, 1) := by decide +kernel
theorem dX4_isFile_6 : decode cX4_isFile 6 = .ok (.if_icmp .ge 7, 3) := by decide +kernel
theorem dX4_isFile_9 : decode cX4_isFile 9 = .ok (.iconst 1, 1) := by decide +kernel
theorem dX4_isFile_10 : decode cX4_isFile 10 = .ok (.goto 4, 3) := by decide +kernel
theorem dX4_isFile_13 : decode cX4_isFile 13 = .ok (.iconst 0, 1) := by decide +kernel
theorem dX4_isFile_14 : decode cX4_isFile 14 = .ok (.ireturn, 1) := by decide +kernel
def f_X4_isFile (p0 : Int32) : Bool :=
  if p0 < 0 then false
  else if 4 ≤ p0 then false
  else true
set_option maxRecDepth 100000 in
set_option maxHeartbeats 4000000 in
theorem k_X4_isFile (q : ZQ) (p0 : Int32) (M : Mem) : Zc (zgX q) mX4_isFile 0 0 [.inl p0] M (wB M (f_X4_isFile p0)) := by
  refine Zc.of (by decide) zi_X4_isFile.1 (Nat.le_of_ble_eq_true rfl) rfl ?_
  show Zg _ _ _ _ _ _ (zlet (f_X4_isFile p0) (wB M)) _ _ _ _
  unfold f_X4_isFile
  refine zg_iload_n (x := p0) dX4_isFile_0 rfl ?_
  refine zg_ifz (tgt := 13) dX4_isFile_1 rfl rfl (fun c1 => ?_) (fun c1 => ?_)
  · refine zg_st (pc' := 13) (L' := [some (.inl p0)]) (S' := []) (M' := M) rfl rfl rfl rfl ?_
    refine zg_iconst (v := 0) dX4_isFile_13 rfl ?_
    exact zg_iret dX4_isFile_14 rfl rfl ⟨by decide, by decide⟩ rfl
  · refine zg_st (pc' := 4) (L' := [some (.inl p0)]) (S' := []) (M' := M) rfl rfl rfl rfl ?_
    refine zg_iload_n (x := p0) dX4_isFile_4 rfl ?_
    refine zg_iconst (v := 4) dX4_isFile_5 rfl ?_
    refine zg_icmpz (tgt := 13) dX4_isFile_6 rfl rfl (fun c6 => ?_) (fun c6 => ?_)
    · refine zg_st (pc' := 13) (L' := [some (.inl p0)]) (S' := []) (M' := M) rfl rfl rfl rfl ?_
      refine zg_iconst (v := 0) dX4_isFile_13 rfl ?_
      exact zg_iret dX4_isFile_14 rfl rfl ⟨by decide, by decide⟩ rfl
    · refine zg_st (pc' := 9) (L' := [some (.inl p0)]) (S' := []) (M' := M) rfl rfl rfl rfl ?_
      refine zg_iconst (v := 1) dX4_isFile_9 rfl ?_
      refine zg_goto (tgt := 14) dX4_isFile_10 rfl ?_
      refine zg_st (pc' := 14) (L' := [some (.inl p0)]) (S' := [.inl 1]) (M' := M) rfl rfl rfl rfl ?_
      exact zg_iret dX4_isFile_14 rfl rfl ⟨by decide, by decide⟩ rfl
theorem dX4_isBlock_0 : decode cX4_isBlock 0 = .ok (.iload_n 0, 1) := by decide +kernel
theorem dX4_isBlock_1 : decode cX4_isBlock 1 = .ok (.ifCond .lt 13, 3) := by decide +kernel
theorem dX4_isBlock_4 : decode cX4_isBlock 4 = .ok (.iload_n 0, 1) := by decide +kernel
theorem dX4_isBlock_5 : decode cX4_isBlock 5 = .ok (.bipush 12, 2) := by decide +kernel
theorem dX4_isBlock_7 : decode cX4_isBlock 7 = .ok (.if_icmp .ge 7, 3) := by decide +kernel
theorem dX4_isBlock_10 : decode cX4_isBlock 10 = .ok (.iconst 1, 1) := by decide +kernel
theorem dX4_isBlock_11 : decode cX4_isBlock 11 = .ok (.goto 4, 3) := by decide +kernel
theorem dX4_isBlock_14 : decode cX4_isBlock 14 = .ok (.iconst 0, 1) := by decide +kernel
theorem dX4_isBlock_15 : decode cX4_isBlock 15 = .ok (.ireturn, 1) := by decide +kernel
def f_X4_isBlock (p0 : Int32) : Bool :=
  if p0 < 0 then false
  else if 12 ≤ p0 then false
  else true
set_option maxRecDepth 100000 in
set_option maxHeartbeats 4000000 in
theorem k_X4_isBlock (q : ZQ) (p0 : Int32) (M : Mem) : Zc (zgX q) mX4_isBlock 0 0 [.inl p0] M (wB M (f_X4_isBlock p0)) := by
  refine Zc.of (by decide) zi_X4_isBlock.1 (Nat.le_of_ble_eq_true rfl) rfl ?_
  show Zg _ _ _ _ _ _ (zlet (f_X4_isBlock p0) (wB M)) _ _ _ _
  unfold f_X4_isBlock
  refine zg_iload_n (x := p0) dX4_isBlock_0 rfl ?_
  refine zg_ifz (tgt := 14) dX4_isBlock_1 rfl rfl (fun c1 => ?_) (fun c1 => ?_)
  · refine zg_st (pc' := 14) (L' := [some (.inl p0)]) (S' := []) (M' := M) rfl rfl rfl rfl ?_
    refine zg_iconst (v := 0) dX4_isBlock_14 rfl ?_
    exact zg_iret dX4_isBlock_15 rfl rfl ⟨by decide, by decide⟩ rfl
  · refine zg_st (pc' := 4) (L' := [some (.inl p0)]) (S' := []) (M' := M) rfl rfl rfl rfl ?_
    refine zg_iload_n (x := p0) dX4_isBlock_4 rfl ?_
    refine zg_bipush (v := 12) dX4_isBlock_5 rfl ?_
    refine zg_icmpz (tgt := 14) dX4_isBlock_7 rfl rfl (fun c7 => ?_) (fun c7 => ?_)
    · refine zg_st (pc' := 14) (L' := [some (.inl p0)]) (S' := []) (M' := M) rfl rfl rfl rfl ?_
      refine zg_iconst (v := 0) dX4_isBlock_14 rfl ?_
      exact zg_iret dX4_isBlock_15 rfl rfl ⟨by decide, by decide⟩ rfl
    · refine zg_st (pc' := 10) (L' := [some (.inl p0)]) (S' := []) (M' := M) rfl rfl rfl rfl ?_
      refine zg_iconst (v := 1) dX4_isBlock_10 rfl ?_
      refine zg_goto (tgt := 15) dX4_isBlock_11 rfl ?_
      refine zg_st (pc' := 15) (L' := [some (.inl p0)]) (S' := [.inl 1]) (M' := M) rfl rfl rfl rfl ?_
      exact zg_iret dX4_isBlock_15 rfl rfl ⟨by decide, by decide⟩ rfl
theorem dX4_isBlockOfFile_0 : decode cX4_isBlockOfFile 0 = .ok (.iload_n 0, 1) := by decide +kernel
theorem dX4_isBlockOfFile_1 : decode cX4_isBlockOfFile 1 = .ok (.invokestatic 79, 3) := by decide +kernel
theorem dX4_isBlockOfFile_4 : decode cX4_isBlockOfFile 4 = .ok (.ifCond .eq 14, 3) := by decide +kernel
theorem dX4_isBlockOfFile_7 : decode cX4_isBlockOfFile 7 = .ok (.iload_n 1, 1) := by decide +kernel
theorem dX4_isBlockOfFile_8 : decode cX4_isBlockOfFile 8 = .ok (.invokestatic 73, 3) := by decide +kernel
theorem dX4_isBlockOfFile_11 : decode cX4_isBlockOfFile 11 = .ok (.ifCond .eq 7, 3) := by decide +kernel
theorem dX4_isBlockOfFile_14 : decode cX4_isBlockOfFile 14 = .ok (.iconst 1, 1) := by decide +kernel
theorem dX4_isBlockOfFile_15 : decode cX4_isBlockOfFile 15 = .ok (.goto 4, 3) := by decide +kernel
theorem dX4_isBlockOfFile_18 : decode cX4_isBlockOfFile 18 = .ok (.iconst 0, 1) := by decide +kernel
theorem dX4_isBlockOfFile_19 : decode cX4_isBlockOfFile 19 = .ok (.ireturn, 1) := by decide +kernel
def f_X4_isBlockOfFile (p0 : Int32) (p1 : Int32) : Bool :=
  if (f_X4_isFile p0) then if (f_X4_isBlock p1) then true
    else false
  else false
set_option maxRecDepth 100000 in
set_option maxHeartbeats 4000000 in
theorem k_X4_isBlockOfFile (q : ZQ) (p0 : Int32) (p1 : Int32) (M : Mem) : Zc (zgX q) mX4_isBlockOfFile 0 0 [.inl p0, .inl p1] M (wB M (f_X4_isBlockOfFile p0 p1)) := by
  refine Zc.of (by decide) zi_X4_isBlockOfFile.1 (Nat.le_of_ble_eq_true rfl) rfl ?_
  show Zg _ _ _ _ _ _ (zlet (f_X4_isBlockOfFile p0 p1) (wB M)) _ _ _ _
  unfold f_X4_isBlockOfFile
  refine zg_iload_n (x := p0) dX4_isBlockOfFile_0 rfl ?_
  refine zg_cS1 (As := [.inl p0]) (S := []) (v := bI ((f_X4_isFile p0))) dX4_isBlockOfFile_1 zk_X4_79 (k_X4_isFile q p0 M) rfl ⟨by decide, by decide⟩ ⟨by decide, by decide⟩ rfl (Nat.le_of_ble_eq_true rfl) ?_
  refine zg_st (pc' := 4) (L' := [some (.inl p0), some (.inl p1)]) (S' := [.inl (bI ((f_X4_isFile p0)))]) (M' := M) rfl rfl rfl rfl ?_
  refine zg_ifbe (tgt := 18) dX4_isBlockOfFile_4 rfl (fun c4 => ?_) (fun c4 => ?_)
  · refine zg_st (pc' := 7) (L' := [some (.inl p0), some (.inl p1)]) (S' := []) (M' := M) rfl rfl rfl rfl ?_
    refine zg_iload_n (x := p1) dX4_isBlockOfFile_7 rfl ?_
    refine zg_cS1 (As := [.inl p1]) (S := []) (v := bI ((f_X4_isBlock p1))) dX4_isBlockOfFile_8 zk_X4_73 (k_X4_isBlock q p1 M) rfl ⟨by decide, by decide⟩ ⟨by decide, by decide⟩ rfl (Nat.le_of_ble_eq_true rfl) ?_
    refine zg_st (pc' := 11) (L' := [some (.inl p0), some (.inl p1)]) (S' := [.inl (bI ((f_X4_isBlock p1)))]) (M' := M) rfl rfl rfl rfl ?_
    refine zg_ifbe (tgt := 18) dX4_isBlockOfFile_11 rfl (fun c11 => ?_) (fun c11 => ?_)
    · refine zg_st (pc' := 14) (L' := [some (.inl p0), some (.inl p1)]) (S' := []) (M' := M) rfl rfl rfl rfl ?_
      refine zg_iconst (v := 1) dX4_isBlockOfFile_14 rfl ?_
      refine zg_goto (tgt := 19) dX4_isBlockOfFile_15 rfl ?_
      refine zg_st (pc' := 19) (L' := [some (.inl p0), some (.inl p1)]) (S' := [.inl 1]) (M' := M) rfl rfl rfl rfl ?_
      exact zg_iret dX4_isBlockOfFile_19 rfl rfl ⟨by decide, by decide⟩ rfl
    · refine zg_st (pc' := 18) (L' := [some (.inl p0), some (.inl p1)]) (S' := []) (M' := M) rfl rfl rfl rfl ?_
      refine zg_iconst (v := 0) dX4_isBlockOfFile_18 rfl ?_
      exact zg_iret dX4_isBlockOfFile_19 rfl rfl ⟨by decide, by decide⟩ rfl
  · refine zg_st (pc' := 18) (L' := [some (.inl p0), some (.inl p1)]) (S' := []) (M' := M) rfl rfl rfl rfl ?_
    refine zg_iconst (v := 0) dX4_isBlockOfFile_18 rfl ?_
    exact zg_iret dX4_isBlockOfFile_19 rfl rfl ⟨by decide, by decide⟩ rfl
theorem dX4_blockPointer_0 : decode cX4_blockPointer 0 = .ok (.iload_n 0, 1) := by decide +kernel
theorem dX4_blockPointer_1 : decode cX4_blockPointer 1 = .ok (.bipush 12, 2) := by decide +kernel
theorem dX4_blockPointer_3 : decode cX4_blockPointer 3 = .ok (.imul, 1) := by decide +kernel
theorem dX4_blockPointer_4 : decode cX4_blockPointer 4 = .ok (.iload_n 1, 1) := by decide +kernel
theorem dX4_blockPointer_5 : decode cX4_blockPointer 5 = .ok (.iadd, 1) := by decide +kernel
theorem dX4_blockPointer_6 : decode cX4_blockPointer 6 = .ok (.ireturn, 1) := by decide +kernel
def f_X4_blockPointer (p0 : Int32) (p1 : Int32) : Int32 :=
  ((p0 * 12) + p1)
set_option maxRecDepth 100000 in
set_option maxHeartbeats 4000000 in
theorem k_X4_blockPointer (q : ZQ) (p0 : Int32) (p1 : Int32) (M : Mem) : Zc (zgX q) mX4_blockPointer 0 0 [.inl p0, .inl p1] M (wI M (f_X4_blockPointer p0 p1)) := by
  refine Zc.of (by decide) zi_X4_blockPointer.1 (Nat.le_of_ble_eq_true rfl) rfl ?_
  show Zg _ _ _ _ _ _ (zlet (f_X4_blockPointer p0 p1) (wI M)) _ _ _ _
  unfold f_X4_blockPointer
  refine zg_iload_n (x := p0) dX4_blockPointer_0 rfl ?_
  refine zg_bipush (v := 12) dX4_blockPointer_1 rfl ?_
  refine zg_imul dX4_blockPointer_3 ?_
  refine zg_iload_n (x := p1) dX4_blockPointer_4 rfl ?_
  refine zg_iadd dX4_blockPointer_5 ?_
  exact zg_iret dX4_blockPointer_6 rfl rfl ⟨by decide, by decide⟩ rfl
theorem dX4_isBlockPointer_0 : decode cX4_isBlockPointer 0 = .ok (.iload_n 0, 1) := by decide +kernel
theorem dX4_isBlockPointer_1 : decode cX4_isBlockPointer 1 = .ok (.ifCond .lt 13, 3) := by decide +kernel
theorem dX4_isBlockPointer_4 : decode cX4_isBlockPointer 4 = .ok (.iload_n 0, 1) := by decide +kernel
theorem dX4_isBlockPointer_5 : decode cX4_isBlockPointer 5 = .ok (.bipush 48, 2) := by decide +kernel
theorem dX4_isBlockPointer_7 : decode cX4_isBlockPointer 7 = .ok (.if_icmp .ge 7, 3) := by decide +kernel
theorem dX4_isBlockPointer_10 : decode cX4_isBlockPointer 10 = .ok (.iconst 1, 1) := by decide +kernel
theorem dX4_isBlockPointer_11 : decode cX4_isBlockPointer 11 = .ok (.goto 4, 3) := by decide +kernel
theorem dX4_isBlockPointer_14 : decode cX4_isBlockPointer 14 = .ok (.iconst 0, 1) := by decide +kernel
theorem dX4_isBlockPointer_15 : decode cX4_isBlockPointer 15 = .ok (.ireturn, 1) := by decide +kernel
def f_X4_isBlockPointer (p0 : Int32) : Bool :=
  if p0 < 0 then false
  else if 48 ≤ p0 then false
  else true
set_option maxRecDepth 100000 in
set_option maxHeartbeats 4000000 in
theorem k_X4_isBlockPointer (q : ZQ) (p0 : Int32) (M : Mem) : Zc (zgX q) mX4_isBlockPointer 0 0 [.inl p0] M (wB M (f_X4_isBlockPointer p0)) := by
  refine Zc.of (by decide) zi_X4_isBlockPointer.1 (Nat.le_of_ble_eq_true rfl) rfl ?_
  show Zg _ _ _ _ _ _ (zlet (f_X4_isBlockPointer p0) (wB M)) _ _ _ _
  unfold f_X4_isBlockPointer
  refine zg_iload_n (x := p0) dX4_isBlockPointer_0 rfl ?_
  refine zg_ifz (tgt := 14) dX4_isBlockPointer_1 rfl rfl (fun c1 => ?_) (fun c1 => ?_)
  · refine zg_st (pc' := 14) (L' := [some (.inl p0)]) (S' := []) (M' := M) rfl rfl rfl rfl ?_
    refine zg_iconst (v := 0) dX4_isBlockPointer_14 rfl ?_
    exact zg_iret dX4_isBlockPointer_15 rfl rfl ⟨by decide, by decide⟩ rfl
  · refine zg_st (pc' := 4) (L' := [some (.inl p0)]) (S' := []) (M' := M) rfl rfl rfl rfl ?_
    refine zg_iload_n (x := p0) dX4_isBlockPointer_4 rfl ?_
    refine zg_bipush (v := 48) dX4_isBlockPointer_5 rfl ?_
    refine zg_icmpz (tgt := 14) dX4_isBlockPointer_7 rfl rfl (fun c7 => ?_) (fun c7 => ?_)
    · refine zg_st (pc' := 14) (L' := [some (.inl p0)]) (S' := []) (M' := M) rfl rfl rfl rfl ?_
      refine zg_iconst (v := 0) dX4_isBlockPointer_14 rfl ?_
      exact zg_iret dX4_isBlockPointer_15 rfl rfl ⟨by decide, by decide⟩ rfl
    · refine zg_st (pc' := 10) (L' := [some (.inl p0)]) (S' := []) (M' := M) rfl rfl rfl rfl ?_
      refine zg_iconst (v := 1) dX4_isBlockPointer_10 rfl ?_
      refine zg_goto (tgt := 15) dX4_isBlockPointer_11 rfl ?_
      refine zg_st (pc' := 15) (L' := [some (.inl p0)]) (S' := [.inl 1]) (M' := M) rfl rfl rfl rfl ?_
      exact zg_iret dX4_isBlockPointer_15 rfl rfl ⟨by decide, by decide⟩ rfl
theorem dX4_filePointer_0 : decode cX4_filePointer 0 = .ok (.bipush 48, 2) := by decide +kernel
theorem dX4_filePointer_2 : decode cX4_filePointer 2 = .ok (.iload_n 0, 1) := by decide +kernel
theorem dX4_filePointer_3 : decode cX4_filePointer 3 = .ok (.iadd, 1) := by decide +kernel
theorem dX4_filePointer_4 : decode cX4_filePointer 4 = .ok (.ireturn, 1) := by decide +kernel
def f_X4_filePointer (p0 : Int32) : Int32 :=
  (48 + p0)
set_option maxRecDepth 100000 in
set_option maxHeartbeats 4000000 in
theorem k_X4_filePointer (q : ZQ) (p0 : Int32) (M : Mem) : Zc (zgX q) mX4_filePointer 0 0 [.inl p0] M (wI M (f_X4_filePointer p0)) := by
  refine Zc.of (by decide) zi_X4_filePointer.1 (Nat.le_of_ble_eq_true rfl) rfl ?_
  show Zg _ _ _ _ _ _ (zlet (f_X4_filePointer p0) (wI M)) _ _ _ _
  unfold f_X4_filePointer
  refine zg_bipush (v := 48) dX4_filePointer_0 rfl ?_
  refine zg_iload_n (x := p0) dX4_filePointer_2 rfl ?_
  refine zg_iadd dX4_filePointer_3 ?_
  exact zg_iret dX4_filePointer_4 rfl rfl ⟨by decide, by decide⟩ rfl
theorem dX4_isPointer_0 : decode cX4_isPointer 0 = .ok (.iload_n 0, 1) := by decide +kernel
theorem dX4_isPointer_1 : decode cX4_isPointer 1 = .ok (.ifCond .lt 13, 3) := by decide +kernel
theorem dX4_isPointer_4 : decode cX4_isPointer 4 = .ok (.iload_n 0, 1) := by decide +kernel
theorem dX4_isPointer_5 : decode cX4_isPointer 5 = .ok (.bipush 53, 2) := by decide +kernel
theorem dX4_isPointer_7 : decode cX4_isPointer 7 = .ok (.if_icmp .ge 7, 3) := by decide +kernel
theorem dX4_isPointer_10 : decode cX4_isPointer 10 = .ok (.iconst 1, 1) := by decide +kernel
theorem dX4_isPointer_11 : decode cX4_isPointer 11 = .ok (.goto 4, 3) := by decide +kernel
theorem dX4_isPointer_14 : decode cX4_isPointer 14 = .ok (.iconst 0, 1) := by decide +kernel
theorem dX4_isPointer_15 : decode cX4_isPointer 15 = .ok (.ireturn, 1) := by decide +kernel
def f_X4_isPointer (p0 : Int32) : Bool :=
  if p0 < 0 then false
  else if 53 ≤ p0 then false
  else true
set_option maxRecDepth 100000 in
set_option maxHeartbeats 4000000 in
theorem k_X4_isPointer (q : ZQ) (p0 : Int32) (M : Mem) : Zc (zgX q) mX4_isPointer 0 0 [.inl p0] M (wB M (f_X4_isPointer p0)) := by
  refine Zc.of (by decide) zi_X4_isPointer.1 (Nat.le_of_ble_eq_true rfl) rfl ?_
  show Zg _ _ _ _ _ _ (zlet (f_X4_isPointer p0) (wB M)) _ _ _ _
  unfold f_X4_isPointer
  refine zg_iload_n (x := p0) dX4_isPointer_0 rfl ?_
  refine zg_ifz (tgt := 14) dX4_isPointer_1 rfl rfl (fun c1 => ?_) (fun c1 => ?_)
  · refine zg_st (pc' := 14) (L' := [some (.inl p0)]) (S' := []) (M' := M) rfl rfl rfl rfl ?_
    refine zg_iconst (v := 0) dX4_isPointer_14 rfl ?_
    exact zg_iret dX4_isPointer_15 rfl rfl ⟨by decide, by decide⟩ rfl
  · refine zg_st (pc' := 4) (L' := [some (.inl p0)]) (S' := []) (M' := M) rfl rfl rfl rfl ?_
    refine zg_iload_n (x := p0) dX4_isPointer_4 rfl ?_
    refine zg_bipush (v := 53) dX4_isPointer_5 rfl ?_
    refine zg_icmpz (tgt := 14) dX4_isPointer_7 rfl rfl (fun c7 => ?_) (fun c7 => ?_)
    · refine zg_st (pc' := 14) (L' := [some (.inl p0)]) (S' := []) (M' := M) rfl rfl rfl rfl ?_
      refine zg_iconst (v := 0) dX4_isPointer_14 rfl ?_
      exact zg_iret dX4_isPointer_15 rfl rfl ⟨by decide, by decide⟩ rfl
    · refine zg_st (pc' := 10) (L' := [some (.inl p0)]) (S' := []) (M' := M) rfl rfl rfl rfl ?_
      refine zg_iconst (v := 1) dX4_isPointer_10 rfl ?_
      refine zg_goto (tgt := 15) dX4_isPointer_11 rfl ?_
      refine zg_st (pc' := 15) (L' := [some (.inl p0)]) (S' := [.inl 1]) (M' := M) rfl rfl rfl rfl ?_
      exact zg_iret dX4_isPointer_15 rfl rfl ⟨by decide, by decide⟩ rfl
theorem dX4_isCellOnSide_0 : decode cX4_isCellOnSide 0 = .ok (.iload_n 0, 1) := by decide +kernel
theorem dX4_isCellOnSide_1 : decode cX4_isCellOnSide 1 = .ok (.ifCond .lt 22, 3) := by decide +kernel
theorem dX4_isCellOnSide_4 : decode cX4_isCellOnSide 4 = .ok (.iload_n 0, 1) := by decide +kernel
theorem dX4_isCellOnSide_5 : decode cX4_isCellOnSide 5 = .ok (.bipush 120, 2) := by decide +kernel
theorem dX4_isCellOnSide_7 : decode cX4_isCellOnSide 7 = .ok (.if_icmp .ge 16, 3) := by decide +kernel
theorem dX4_isCellOnSide_10 : decode cX4_isCellOnSide 10 = .ok (.iload_n 1, 1) := by decide +kernel
theorem dX4_isCellOnSide_11 : decode cX4_isCellOnSide 11 = .ok (.ifCond .lt 12, 3) := by decide +kernel
theorem dX4_isCellOnSide_14 : decode cX4_isCellOnSide 14 = .ok (.iload_n 1, 1) := by decide +kernel
theorem dX4_isCellOnSide_15 : decode cX4_isCellOnSide 15 = .ok (.iconst 2, 1) := by decide +kernel
theorem dX4_isCellOnSide_16 : decode cX4_isCellOnSide 16 = .ok (.if_icmp .ge 7, 3) := by decide +kernel
theorem dX4_isCellOnSide_19 : decode cX4_isCellOnSide 19 = .ok (.iconst 1, 1) := by decide +kernel
theorem dX4_isCellOnSide_20 : decode cX4_isCellOnSide 20 = .ok (.goto 4, 3) := by decide +kernel
theorem dX4_isCellOnSide_23 : decode cX4_isCellOnSide 23 = .ok (.iconst 0, 1) := by decide +kernel
theorem dX4_isCellOnSide_24 : decode cX4_isCellOnSide 24 = .ok (.ireturn, 1) := by decide +kernel
def f_X4_isCellOnSide (p0 : Int32) (p1 : Int32) : Bool :=
  if p0 < 0 then false
  else if 120 ≤ p0 then false
  else if p1 < 0 then false
  else if 2 ≤ p1 then false
  else true
set_option maxRecDepth 100000 in
set_option maxHeartbeats 4000000 in
theorem k_X4_isCellOnSide (q : ZQ) (p0 : Int32) (p1 : Int32) (M : Mem) : Zc (zgX q) mX4_isCellOnSide 0 0 [.inl p0, .inl p1] M (wB M (f_X4_isCellOnSide p0 p1)) := by
  refine Zc.of (by decide) zi_X4_isCellOnSide.1 (Nat.le_of_ble_eq_true rfl) rfl ?_
  show Zg _ _ _ _ _ _ (zlet (f_X4_isCellOnSide p0 p1) (wB M)) _ _ _ _
  unfold f_X4_isCellOnSide
  refine zg_iload_n (x := p0) dX4_isCellOnSide_0 rfl ?_
  refine zg_ifz (tgt := 23) dX4_isCellOnSide_1 rfl rfl (fun c1 => ?_) (fun c1 => ?_)
  · refine zg_st (pc' := 23) (L' := [some (.inl p0), some (.inl p1)]) (S' := []) (M' := M) rfl rfl rfl rfl ?_
    refine zg_iconst (v := 0) dX4_isCellOnSide_23 rfl ?_
    exact zg_iret dX4_isCellOnSide_24 rfl rfl ⟨by decide, by decide⟩ rfl
  · refine zg_st (pc' := 4) (L' := [some (.inl p0), some (.inl p1)]) (S' := []) (M' := M) rfl rfl rfl rfl ?_
    refine zg_iload_n (x := p0) dX4_isCellOnSide_4 rfl ?_
    refine zg_bipush (v := 120) dX4_isCellOnSide_5 rfl ?_
    refine zg_icmpz (tgt := 23) dX4_isCellOnSide_7 rfl rfl (fun c7 => ?_) (fun c7 => ?_)
    · refine zg_st (pc' := 23) (L' := [some (.inl p0), some (.inl p1)]) (S' := []) (M' := M) rfl rfl rfl rfl ?_
      refine zg_iconst (v := 0) dX4_isCellOnSide_23 rfl ?_
      exact zg_iret dX4_isCellOnSide_24 rfl rfl ⟨by decide, by decide⟩ rfl
    · refine zg_st (pc' := 10) (L' := [some (.inl p0), some (.inl p1)]) (S' := []) (M' := M) rfl rfl rfl rfl ?_
      refine zg_iload_n (x := p1) dX4_isCellOnSide_10 rfl ?_
      refine zg_ifz (tgt := 23) dX4_isCellOnSide_11 rfl rfl (fun c11 => ?_) (fun c11 => ?_)
      · refine zg_st (pc' := 23) (L' := [some (.inl p0), some (.inl p1)]) (S' := []) (M' := M) rfl rfl rfl rfl ?_
        refine zg_iconst (v := 0) dX4_isCellOnSide_23 rfl ?_
        exact zg_iret dX4_isCellOnSide_24 rfl rfl ⟨by decide, by decide⟩ rfl
      · refine zg_st (pc' := 14) (L' := [some (.inl p0), some (.inl p1)]) (S' := []) (M' := M) rfl rfl rfl rfl ?_
        refine zg_iload_n (x := p1) dX4_isCellOnSide_14 rfl ?_
        refine zg_iconst (v := 2) dX4_isCellOnSide_15 rfl ?_
        refine zg_icmpz (tgt := 23) dX4_isCellOnSide_16 rfl rfl (fun c16 => ?_) (fun c16 => ?_)
        · refine zg_st (pc' := 23) (L' := [some (.inl p0), some (.inl p1)]) (S' := []) (M' := M) rfl rfl rfl rfl ?_
          refine zg_iconst (v := 0) dX4_isCellOnSide_23 rfl ?_
          exact zg_iret dX4_isCellOnSide_24 rfl rfl ⟨by decide, by decide⟩ rfl
        · refine zg_st (pc' := 19) (L' := [some (.inl p0), some (.inl p1)]) (S' := []) (M' := M) rfl rfl rfl rfl ?_
          refine zg_iconst (v := 1) dX4_isCellOnSide_19 rfl ?_
          refine zg_goto (tgt := 24) dX4_isCellOnSide_20 rfl ?_
          refine zg_st (pc' := 24) (L' := [some (.inl p0), some (.inl p1)]) (S' := [.inl 1]) (M' := M) rfl rfl rfl rfl ?_
          exact zg_iret dX4_isCellOnSide_24 rfl rfl ⟨by decide, by decide⟩ rfl
theorem dX4_mirrorOf_0 : decode cX4_mirrorOf 0 = .ok (.iload_n 0, 1) := by decide +kernel
theorem dX4_mirrorOf_1 : decode cX4_mirrorOf 1 = .ok (.bipush 40, 2) := by decide +kernel
theorem dX4_mirrorOf_3 : decode cX4_mirrorOf 3 = .ok (.idiv, 1) := by decide +kernel
theorem dX4_mirrorOf_4 : decode cX4_mirrorOf 4 = .ok (.ireturn, 1) := by decide +kernel
def f_X4_mirrorOf (p0 : Int32) : Int32 :=
  (p0 / 40)
set_option maxRecDepth 100000 in
set_option maxHeartbeats 4000000 in
theorem k_X4_mirrorOf (q : ZQ) (p0 : Int32) (M : Mem) : Zc (zgX q) mX4_mirrorOf 0 0 [.inl p0] M (wI M (f_X4_mirrorOf p0)) := by
  refine Zc.of (by decide) zi_X4_mirrorOf.1 (Nat.le_of_ble_eq_true rfl) rfl ?_
  show Zg _ _ _ _ _ _ (zlet (f_X4_mirrorOf p0) (wI M)) _ _ _ _
  unfold f_X4_mirrorOf
  refine zg_iload_n (x := p0) dX4_mirrorOf_0 rfl ?_
  refine zg_bipush (v := 40) dX4_mirrorOf_1 rfl ?_
  refine zg_idiv dX4_mirrorOf_3 (by decide) ?_
  exact zg_iret dX4_mirrorOf_4 rfl rfl ⟨by decide, by decide⟩ rfl
theorem dX4_isSideOfMirror_0 : decode cX4_isSideOfMirror 0 = .ok (.iload_n 0, 1) := by decide +kernel
theorem dX4_isSideOfMirror_1 : decode cX4_isSideOfMirror 1 = .ok (.ifCond .lt 21, 3) := by decide +kernel
theorem dX4_isSideOfMirror_4 : decode cX4_isSideOfMirror 4 = .ok (.iload_n 0, 1) := by decide +kernel
theorem dX4_isSideOfMirror_5 : decode cX4_isSideOfMirror 5 = .ok (.iconst 3, 1) := by decide +kernel
theorem dX4_isSideOfMirror_6 : decode cX4_isSideOfMirror 6 = .ok (.if_icmp .ge 16, 3) := by decide +kernel
theorem dX4_isSideOfMirror_9 : decode cX4_isSideOfMirror 9 = .ok (.iload_n 1, 1) := by decide +kernel
theorem dX4_isSideOfMirror_10 : decode cX4_isSideOfMirror 10 = .ok (.ifCond .lt 12, 3) := by decide +kernel
theorem dX4_isSideOfMirror_13 : decode cX4_isSideOfMirror 13 = .ok (.iload_n 1, 1) := by decide +kernel
theorem dX4_isSideOfMirror_14 : decode cX4_isSideOfMirror 14 = .ok (.iconst 2, 1) := by decide +kernel
theorem dX4_isSideOfMirror_15 : decode cX4_isSideOfMirror 15 = .ok (.if_icmp .ge 7, 3) := by decide +kernel
theorem dX4_isSideOfMirror_18 : decode cX4_isSideOfMirror 18 = .ok (.iconst 1, 1) := by decide +kernel
theorem dX4_isSideOfMirror_19 : decode cX4_isSideOfMirror 19 = .ok (.goto 4, 3) := by decide +kernel
theorem dX4_isSideOfMirror_22 : decode cX4_isSideOfMirror 22 = .ok (.iconst 0, 1) := by decide +kernel
theorem dX4_isSideOfMirror_23 : decode cX4_isSideOfMirror 23 = .ok (.ireturn, 1) := by decide +kernel
def f_X4_isSideOfMirror (p0 : Int32) (p1 : Int32) : Bool :=
  if p0 < 0 then false
  else if 3 ≤ p0 then false
  else if p1 < 0 then false
  else if 2 ≤ p1 then false
  else true
set_option maxRecDepth 100000 in
set_option maxHeartbeats 4000000 in
theorem k_X4_isSideOfMirror (q : ZQ) (p0 : Int32) (p1 : Int32) (M : Mem) : Zc (zgX q) mX4_isSideOfMirror 0 0 [.inl p0, .inl p1] M (wB M (f_X4_isSideOfMirror p0 p1)) := by
  refine Zc.of (by decide) zi_X4_isSideOfMirror.1 (Nat.le_of_ble_eq_true rfl) rfl ?_
  show Zg _ _ _ _ _ _ (zlet (f_X4_isSideOfMirror p0 p1) (wB M)) _ _ _ _
  unfold f_X4_isSideOfMirror
  refine zg_iload_n (x := p0) dX4_isSideOfMirror_0 rfl ?_
  refine zg_ifz (tgt := 22) dX4_isSideOfMirror_1 rfl rfl (fun c1 => ?_) (fun c1 => ?_)
  · refine zg_st (pc' := 22) (L' := [some (.inl p0), some (.inl p1)]) (S' := []) (M' := M) rfl rfl rfl rfl ?_
    refine zg_iconst (v := 0) dX4_isSideOfMirror_22 rfl ?_
    exact zg_iret dX4_isSideOfMirror_23 rfl rfl ⟨by decide, by decide⟩ rfl
  · refine zg_st (pc' := 4) (L' := [some (.inl p0), some (.inl p1)]) (S' := []) (M' := M) rfl rfl rfl rfl ?_
    refine zg_iload_n (x := p0) dX4_isSideOfMirror_4 rfl ?_
    refine zg_iconst (v := 3) dX4_isSideOfMirror_5 rfl ?_
    refine zg_icmpz (tgt := 22) dX4_isSideOfMirror_6 rfl rfl (fun c6 => ?_) (fun c6 => ?_)
    · refine zg_st (pc' := 22) (L' := [some (.inl p0), some (.inl p1)]) (S' := []) (M' := M) rfl rfl rfl rfl ?_
      refine zg_iconst (v := 0) dX4_isSideOfMirror_22 rfl ?_
      exact zg_iret dX4_isSideOfMirror_23 rfl rfl ⟨by decide, by decide⟩ rfl
    · refine zg_st (pc' := 9) (L' := [some (.inl p0), some (.inl p1)]) (S' := []) (M' := M) rfl rfl rfl rfl ?_
      refine zg_iload_n (x := p1) dX4_isSideOfMirror_9 rfl ?_
      refine zg_ifz (tgt := 22) dX4_isSideOfMirror_10 rfl rfl (fun c10 => ?_) (fun c10 => ?_)
      · refine zg_st (pc' := 22) (L' := [some (.inl p0), some (.inl p1)]) (S' := []) (M' := M) rfl rfl rfl rfl ?_
        refine zg_iconst (v := 0) dX4_isSideOfMirror_22 rfl ?_
        exact zg_iret dX4_isSideOfMirror_23 rfl rfl ⟨by decide, by decide⟩ rfl
      · refine zg_st (pc' := 13) (L' := [some (.inl p0), some (.inl p1)]) (S' := []) (M' := M) rfl rfl rfl rfl ?_
        refine zg_iload_n (x := p1) dX4_isSideOfMirror_13 rfl ?_
        refine zg_iconst (v := 2) dX4_isSideOfMirror_14 rfl ?_
        refine zg_icmpz (tgt := 22) dX4_isSideOfMirror_15 rfl rfl (fun c15 => ?_) (fun c15 => ?_)
        · refine zg_st (pc' := 22) (L' := [some (.inl p0), some (.inl p1)]) (S' := []) (M' := M) rfl rfl rfl rfl ?_
          refine zg_iconst (v := 0) dX4_isSideOfMirror_22 rfl ?_
          exact zg_iret dX4_isSideOfMirror_23 rfl rfl ⟨by decide, by decide⟩ rfl
        · refine zg_st (pc' := 18) (L' := [some (.inl p0), some (.inl p1)]) (S' := []) (M' := M) rfl rfl rfl rfl ?_
          refine zg_iconst (v := 1) dX4_isSideOfMirror_18 rfl ?_
          refine zg_goto (tgt := 23) dX4_isSideOfMirror_19 rfl ?_
          refine zg_st (pc' := 23) (L' := [some (.inl p0), some (.inl p1)]) (S' := [.inl 1]) (M' := M) rfl rfl rfl rfl ?_
          exact zg_iret dX4_isSideOfMirror_23 rfl rfl ⟨by decide, by decide⟩ rfl
theorem dX4_placeNumber_0 : decode cX4_placeNumber 0 = .ok (.iload_n 0, 1) := by decide +kernel
theorem dX4_placeNumber_1 : decode cX4_placeNumber 1 = .ok (.bipush 40, 2) := by decide +kernel
theorem dX4_placeNumber_3 : decode cX4_placeNumber 3 = .ok (.imul, 1) := by decide +kernel
theorem dX4_placeNumber_4 : decode cX4_placeNumber 4 = .ok (.iload_n 1, 1) := by decide +kernel
theorem dX4_placeNumber_5 : decode cX4_placeNumber 5 = .ok (.iadd, 1) := by decide +kernel
theorem dX4_placeNumber_6 : decode cX4_placeNumber 6 = .ok (.ireturn, 1) := by decide +kernel
def f_X4_placeNumber (p0 : Int32) (p1 : Int32) : Int32 :=
  ((p0 * 40) + p1)
set_option maxRecDepth 100000 in
set_option maxHeartbeats 4000000 in
theorem k_X4_placeNumber (q : ZQ) (p0 : Int32) (p1 : Int32) (M : Mem) : Zc (zgX q) mX4_placeNumber 0 0 [.inl p0, .inl p1] M (wI M (f_X4_placeNumber p0 p1)) := by
  refine Zc.of (by decide) zi_X4_placeNumber.1 (Nat.le_of_ble_eq_true rfl) rfl ?_
  show Zg _ _ _ _ _ _ (zlet (f_X4_placeNumber p0 p1) (wI M)) _ _ _ _
  unfold f_X4_placeNumber
  refine zg_iload_n (x := p0) dX4_placeNumber_0 rfl ?_
  refine zg_bipush (v := 40) dX4_placeNumber_1 rfl ?_
  refine zg_imul dX4_placeNumber_3 ?_
  refine zg_iload_n (x := p1) dX4_placeNumber_4 rfl ?_
  refine zg_iadd dX4_placeNumber_5 ?_
  exact zg_iret dX4_placeNumber_6 rfl rfl ⟨by decide, by decide⟩ rfl
theorem dX4_isPlaceNumber_0 : decode cX4_isPlaceNumber 0 = .ok (.iload_n 0, 1) := by decide +kernel
theorem dX4_isPlaceNumber_1 : decode cX4_isPlaceNumber 1 = .ok (.ifCond .lt 13, 3) := by decide +kernel
theorem dX4_isPlaceNumber_4 : decode cX4_isPlaceNumber 4 = .ok (.iload_n 0, 1) := by decide +kernel
theorem dX4_isPlaceNumber_5 : decode cX4_isPlaceNumber 5 = .ok (.bipush 120, 2) := by decide +kernel
theorem dX4_isPlaceNumber_7 : decode cX4_isPlaceNumber 7 = .ok (.if_icmp .ge 7, 3) := by decide +kernel
theorem dX4_isPlaceNumber_10 : decode cX4_isPlaceNumber 10 = .ok (.iconst 1, 1) := by decide +kernel
theorem dX4_isPlaceNumber_11 : decode cX4_isPlaceNumber 11 = .ok (.goto 4, 3) := by decide +kernel
theorem dX4_isPlaceNumber_14 : decode cX4_isPlaceNumber 14 = .ok (.iconst 0, 1) := by decide +kernel
theorem dX4_isPlaceNumber_15 : decode cX4_isPlaceNumber 15 = .ok (.ireturn, 1) := by decide +kernel
def f_X4_isPlaceNumber (p0 : Int32) : Bool :=
  if p0 < 0 then false
  else if 120 ≤ p0 then false
  else true
set_option maxRecDepth 100000 in
set_option maxHeartbeats 4000000 in
theorem k_X4_isPlaceNumber (q : ZQ) (p0 : Int32) (M : Mem) : Zc (zgX q) mX4_isPlaceNumber 0 0 [.inl p0] M (wB M (f_X4_isPlaceNumber p0)) := by
  refine Zc.of (by decide) zi_X4_isPlaceNumber.1 (Nat.le_of_ble_eq_true rfl) rfl ?_
  show Zg _ _ _ _ _ _ (zlet (f_X4_isPlaceNumber p0) (wB M)) _ _ _ _
  unfold f_X4_isPlaceNumber
  refine zg_iload_n (x := p0) dX4_isPlaceNumber_0 rfl ?_
  refine zg_ifz (tgt := 14) dX4_isPlaceNumber_1 rfl rfl (fun c1 => ?_) (fun c1 => ?_)
  · refine zg_st (pc' := 14) (L' := [some (.inl p0)]) (S' := []) (M' := M) rfl rfl rfl rfl ?_
    refine zg_iconst (v := 0) dX4_isPlaceNumber_14 rfl ?_
    exact zg_iret dX4_isPlaceNumber_15 rfl rfl ⟨by decide, by decide⟩ rfl
  · refine zg_st (pc' := 4) (L' := [some (.inl p0)]) (S' := []) (M' := M) rfl rfl rfl rfl ?_
    refine zg_iload_n (x := p0) dX4_isPlaceNumber_4 rfl ?_
    refine zg_bipush (v := 120) dX4_isPlaceNumber_5 rfl ?_
    refine zg_icmpz (tgt := 14) dX4_isPlaceNumber_7 rfl rfl (fun c7 => ?_) (fun c7 => ?_)
    · refine zg_st (pc' := 14) (L' := [some (.inl p0)]) (S' := []) (M' := M) rfl rfl rfl rfl ?_
      refine zg_iconst (v := 0) dX4_isPlaceNumber_14 rfl ?_
      exact zg_iret dX4_isPlaceNumber_15 rfl rfl ⟨by decide, by decide⟩ rfl
    · refine zg_st (pc' := 10) (L' := [some (.inl p0)]) (S' := []) (M' := M) rfl rfl rfl rfl ?_
      refine zg_iconst (v := 1) dX4_isPlaceNumber_10 rfl ?_
      refine zg_goto (tgt := 15) dX4_isPlaceNumber_11 rfl ?_
      refine zg_st (pc' := 15) (L' := [some (.inl p0)]) (S' := [.inl 1]) (M' := M) rfl rfl rfl rfl ?_
      exact zg_iret dX4_isPlaceNumber_15 rfl rfl ⟨by decide, by decide⟩ rfl
theorem dX4_isMirror_0 : decode cX4_isMirror 0 = .ok (.iload_n 0, 1) := by decide +kernel
theorem dX4_isMirror_1 : decode cX4_isMirror 1 = .ok (.ifCond .lt 12, 3) := by decide +kernel
theorem dX4_isMirror_4 : decode cX4_isMirror 4 = .ok (.iload_n 0, 1) := by decide +kernel
theorem dX4_isMirror_5 : decode cX4_isMirror 5 = .ok (.iconst 3, 1) := by decide +kernel
theorem dX4_isMirror_6 : decode cX4_isMirror 6 = .ok (.if_icmp .ge 7, 3) := by decide +kernel
theorem dX4_isMirror_9 : decode cX4_isMirror 9 = .ok (.iconst 1, 1) := by decide +kernel
theorem dX4_isMirror_10 : decode cX4_isMirror 10 = .ok (.goto 4, 3) := by decide +kernel
theorem dX4_isMirror_13 : decode cX4_isMirror 13 = .ok (.iconst 0, 1) := by decide +kernel
theorem dX4_isMirror_14 : decode cX4_isMirror 14 = .ok (.ireturn, 1) := by decide +kernel
def f_X4_isMirror (p0 : Int32) : Bool :=
  if p0 < 0 then false
  else if 3 ≤ p0 then false
  else true
set_option maxRecDepth 100000 in
set_option maxHeartbeats 4000000 in
theorem k_X4_isMirror (q : ZQ) (p0 : Int32) (M : Mem) : Zc (zgX q) mX4_isMirror 0 0 [.inl p0] M (wB M (f_X4_isMirror p0)) := by
  refine Zc.of (by decide) zi_X4_isMirror.1 (Nat.le_of_ble_eq_true rfl) rfl ?_
  show Zg _ _ _ _ _ _ (zlet (f_X4_isMirror p0) (wB M)) _ _ _ _
  unfold f_X4_isMirror
  refine zg_iload_n (x := p0) dX4_isMirror_0 rfl ?_
  refine zg_ifz (tgt := 13) dX4_isMirror_1 rfl rfl (fun c1 => ?_) (fun c1 => ?_)
  · refine zg_st (pc' := 13) (L' := [some (.inl p0)]) (S' := []) (M' := M) rfl rfl rfl rfl ?_
    refine zg_iconst (v := 0) dX4_isMirror_13 rfl ?_
    exact zg_iret dX4_isMirror_14 rfl rfl ⟨by decide, by decide⟩ rfl
  · refine zg_st (pc' := 4) (L' := [some (.inl p0)]) (S' := []) (M' := M) rfl rfl rfl rfl ?_
    refine zg_iload_n (x := p0) dX4_isMirror_4 rfl ?_
    refine zg_iconst (v := 3) dX4_isMirror_5 rfl ?_
    refine zg_icmpz (tgt := 13) dX4_isMirror_6 rfl rfl (fun c6 => ?_) (fun c6 => ?_)
    · refine zg_st (pc' := 13) (L' := [some (.inl p0)]) (S' := []) (M' := M) rfl rfl rfl rfl ?_
      refine zg_iconst (v := 0) dX4_isMirror_13 rfl ?_
      exact zg_iret dX4_isMirror_14 rfl rfl ⟨by decide, by decide⟩ rfl
    · refine zg_st (pc' := 9) (L' := [some (.inl p0)]) (S' := []) (M' := M) rfl rfl rfl rfl ?_
      refine zg_iconst (v := 1) dX4_isMirror_9 rfl ?_
      refine zg_goto (tgt := 14) dX4_isMirror_10 rfl ?_
      refine zg_st (pc' := 14) (L' := [some (.inl p0)]) (S' := [.inl 1]) (M' := M) rfl rfl rfl rfl ?_
      exact zg_iret dX4_isMirror_14 rfl rfl ⟨by decide, by decide⟩ rfl
theorem dX4_isCell_0 : decode cX4_isCell 0 = .ok (.iload_n 0, 1) := by decide +kernel
theorem dX4_isCell_1 : decode cX4_isCell 1 = .ok (.ifCond .lt 13, 3) := by decide +kernel
theorem dX4_isCell_4 : decode cX4_isCell 4 = .ok (.iload_n 0, 1) := by decide +kernel
theorem dX4_isCell_5 : decode cX4_isCell 5 = .ok (.bipush 40, 2) := by decide +kernel
theorem dX4_isCell_7 : decode cX4_isCell 7 = .ok (.if_icmp .ge 7, 3) := by decide +kernel
theorem dX4_isCell_10 : decode cX4_isCell 10 = .ok (.iconst 1, 1) := by decide +kernel
theorem dX4_isCell_11 : decode cX4_isCell 11 = .ok (.goto 4, 3) := by decide +kernel
theorem dX4_isCell_14 : decode cX4_isCell 14 = .ok (.iconst 0, 1) := by decide +kernel
theorem dX4_isCell_15 : decode cX4_isCell 15 = .ok (.ireturn, 1) := by decide +kernel
def f_X4_isCell (p0 : Int32) : Bool :=
  if p0 < 0 then false
  else if 40 ≤ p0 then false
  else true
set_option maxRecDepth 100000 in
set_option maxHeartbeats 4000000 in
theorem k_X4_isCell (q : ZQ) (p0 : Int32) (M : Mem) : Zc (zgX q) mX4_isCell 0 0 [.inl p0] M (wB M (f_X4_isCell p0)) := by
  refine Zc.of (by decide) zi_X4_isCell.1 (Nat.le_of_ble_eq_true rfl) rfl ?_
  show Zg _ _ _ _ _ _ (zlet (f_X4_isCell p0) (wB M)) _ _ _ _
  unfold f_X4_isCell
  refine zg_iload_n (x := p0) dX4_isCell_0 rfl ?_
  refine zg_ifz (tgt := 14) dX4_isCell_1 rfl rfl (fun c1 => ?_) (fun c1 => ?_)
  · refine zg_st (pc' := 14) (L' := [some (.inl p0)]) (S' := []) (M' := M) rfl rfl rfl rfl ?_
    refine zg_iconst (v := 0) dX4_isCell_14 rfl ?_
    exact zg_iret dX4_isCell_15 rfl rfl ⟨by decide, by decide⟩ rfl
  · refine zg_st (pc' := 4) (L' := [some (.inl p0)]) (S' := []) (M' := M) rfl rfl rfl rfl ?_
    refine zg_iload_n (x := p0) dX4_isCell_4 rfl ?_
    refine zg_bipush (v := 40) dX4_isCell_5 rfl ?_
    refine zg_icmpz (tgt := 14) dX4_isCell_7 rfl rfl (fun c7 => ?_) (fun c7 => ?_)
    · refine zg_st (pc' := 14) (L' := [some (.inl p0)]) (S' := []) (M' := M) rfl rfl rfl rfl ?_
      refine zg_iconst (v := 0) dX4_isCell_14 rfl ?_
      exact zg_iret dX4_isCell_15 rfl rfl ⟨by decide, by decide⟩ rfl
    · refine zg_st (pc' := 10) (L' := [some (.inl p0)]) (S' := []) (M' := M) rfl rfl rfl rfl ?_
      refine zg_iconst (v := 1) dX4_isCell_10 rfl ?_
      refine zg_goto (tgt := 15) dX4_isCell_11 rfl ?_
      refine zg_st (pc' := 15) (L' := [some (.inl p0)]) (S' := [.inl 1]) (M' := M) rfl rfl rfl rfl ?_
      exact zg_iret dX4_isCell_15 rfl rfl ⟨by decide, by decide⟩ rfl
end
section
/-! ===== FACTS: what the ranges say, indices ===== -/
theorem q_isFile {p : Int32} : f_X4_isFile p = true ↔ 0 ≤ p.toInt ∧ p.toInt < 4 := by
  unfold f_X4_isFile; simp only [Int32.lt_iff_toInt_lt, Int32.le_iff_toInt_le, Int32.reduceToInt]; split <;> (try split) <;> simp <;> omega
theorem q_isBlock {p : Int32} : f_X4_isBlock p = true ↔ 0 ≤ p.toInt ∧ p.toInt < 12 := by
  unfold f_X4_isBlock; simp only [Int32.lt_iff_toInt_lt, Int32.le_iff_toInt_le, Int32.reduceToInt]; split <;> (try split) <;> simp <;> omega
theorem q_isMirror {p : Int32} : f_X4_isMirror p = true ↔ 0 ≤ p.toInt ∧ p.toInt < 3 := by
  unfold f_X4_isMirror; simp only [Int32.lt_iff_toInt_lt, Int32.le_iff_toInt_le, Int32.reduceToInt]; split <;> (try split) <;> simp <;> omega
theorem q_isCell {p : Int32} : f_X4_isCell p = true ↔ 0 ≤ p.toInt ∧ p.toInt < 40 := by
  unfold f_X4_isCell; simp only [Int32.lt_iff_toInt_lt, Int32.le_iff_toInt_le, Int32.reduceToInt]; split <;> (try split) <;> simp <;> omega
theorem q_isPlaceNumber {p : Int32} : f_X4_isPlaceNumber p = true ↔ 0 ≤ p.toInt ∧ p.toInt < 120 := by
  unfold f_X4_isPlaceNumber; simp only [Int32.lt_iff_toInt_lt, Int32.le_iff_toInt_le, Int32.reduceToInt]; split <;> (try split) <;> simp <;> omega
theorem q_isPointer {p : Int32} : f_X4_isPointer p = true ↔ 0 ≤ p.toInt ∧ p.toInt < 53 := by
  unfold f_X4_isPointer; simp only [Int32.lt_iff_toInt_lt, Int32.le_iff_toInt_le, Int32.reduceToInt]; split <;> (try split) <;> simp <;> omega
theorem q_isBlockPointer {p : Int32} : f_X4_isBlockPointer p = true ↔ 0 ≤ p.toInt ∧ p.toInt < 48 := by
  unfold f_X4_isBlockPointer; simp only [Int32.lt_iff_toInt_lt, Int32.le_iff_toInt_le, Int32.reduceToInt]; split <;> (try split) <;> simp <;> omega
theorem q_isBlockOfFile {a b : Int32} : f_X4_isBlockOfFile a b = true ↔ (0 ≤ a.toInt ∧ a.toInt < 4) ∧ (0 ≤ b.toInt ∧ b.toInt < 12) := by
  unfold f_X4_isBlockOfFile; rw [← q_isFile, ← q_isBlock]; split <;> (try split) <;> simp_all
theorem q_isSideOfMirror {a b : Int32} : f_X4_isSideOfMirror a b = true ↔ (0 ≤ a.toInt ∧ a.toInt < 3) ∧ (0 ≤ b.toInt ∧ b.toInt < 2) := by
  unfold f_X4_isSideOfMirror; simp only [Int32.lt_iff_toInt_lt, Int32.le_iff_toInt_le, Int32.reduceToInt]; split <;> (try split) <;> (try split) <;> (try split) <;> simp <;> omega
theorem q_isCellOnSide {a b : Int32} : f_X4_isCellOnSide a b = true ↔ (0 ≤ a.toInt ∧ a.toInt < 120) ∧ (0 ≤ b.toInt ∧ b.toInt < 2) := by
  unfold f_X4_isCellOnSide; simp only [Int32.lt_iff_toInt_lt, Int32.le_iff_toInt_le, Int32.reduceToInt]; split <;> (try split) <;> (try split) <;> (try split) <;> simp <;> omega
theorem z_mulI {a k : Int32} (h1 : 0 ≤ a.toInt * k.toInt) (h2 : a.toInt * k.toInt < 2 ^ 31) : (a * k).toInt = a.toInt * k.toInt := by
  rw [Int32.toInt_mul, Int.bmod_eq_of_le] <;> omega
theorem z_addI {a b : Int32} (h1 : -(2 ^ 31) ≤ a.toInt + b.toInt) (h2 : a.toInt + b.toInt < 2 ^ 31) : (a + b).toInt = a.toInt + b.toInt := by
  rw [Int32.toInt_add, Int.bmod_eq_of_le] <;> omega
theorem z_divI {a b : Int32} (h1 : 0 ≤ a.toInt) (h2 : 0 < b.toInt) : (a / b).toInt = a.toInt / b.toInt := by
  have h3 := Int32.toInt_lt a
  have h4 : 0 ≤ a.toInt / b.toInt := Int.ediv_nonneg h1 (by omega)
  have h5 : a.toInt / b.toInt ≤ a.toInt := Int.ediv_le_self _ h1
  rw [Int32.toInt_div, Int.tdiv_eq_ediv_of_nonneg h1, Int.bmod_eq_of_le] <;> omega
theorem z_ge0 {C v : Int32} (h : ¬ C ≤ v) (h0 : (0 : Int) ≤ v.toInt) : (0 : Int) ≤ (v + 1).toInt := by
  rw [Int32.le_iff_toInt_le] at h
  have h1 := Int32.toInt_lt C
  have e : (v + 1).toInt = v.toInt + (1 : Int32).toInt := z_addI (by simp; omega) (by simp; omega)
  rw [e]; simp; omega
theorem z_ix2 {m s : Int32} (hm : 0 ≤ m.toInt ∧ m.toInt < 3) (hs : 0 ≤ s.toInt ∧ s.toInt < 2) : vp_in (m * 2 + s) 6 := by
  have e1 : (m * 2).toInt = m.toInt * (2 : Int32).toInt := z_mulI (by simp; omega) (by simp; omega)
  simp only [Int32.reduceToInt] at e1
  have e2 : (m * 2 + s).toInt = (m * 2).toInt + s.toInt := z_addI (by omega) (by omega)
  rw [vp_in_iff, e2, e1]; omega
theorem z_ix120 {s p : Int32} (hs : 0 ≤ s.toInt ∧ s.toInt < 2) (hp : 0 ≤ p.toInt ∧ p.toInt < 120) : vp_in (s * 120 + p) 240 := by
  have e1 : (s * 120).toInt = s.toInt * (120 : Int32).toInt := z_mulI (by simp; omega) (by simp; omega)
  simp only [Int32.reduceToInt] at e1
  have e2 : (s * 120 + p).toInt = (s * 120).toInt + p.toInt := z_addI (by omega) (by omega)
  rw [vp_in_iff, e2, e1]; omega
theorem z_mirror {p : Int32} (hp : 0 ≤ p.toInt ∧ p.toInt < 120) : (f_X4_mirrorOf p).toInt = p.toInt / 40 := by
  have e := z_divI (a := p) (b := 40) hp.1 (by decide)
  simpa [f_X4_mirrorOf] using e
theorem z_ixm {p s : Int32} (hp : 0 ≤ p.toInt ∧ p.toInt < 120) (hs : 0 ≤ s.toInt ∧ s.toInt < 2) : vp_in (f_X4_mirrorOf p * 2 + s) 6 := by
  have e := z_mirror hp
  exact z_ix2 (by rw [e]; omega) hs
end
section
theorem dX2_holds_0 : decode cX2_holds 0 = .ok (.iload_n 1, 1) := by decide +kernel
theorem dX2_holds_1 : decode cX2_holds 1 = .ok (.invokestatic 25, 3) := by decide +kernel
theorem dX2_holds_4 : decode cX2_holds 4 = .ok (.ifCond .eq 17, 3) := by decide +kernel
theorem dX2_holds_7 : decode cX2_holds 7 = .ok (.aload_n 0, 1) := by decide +kernel
theorem dX2_holds_8 : decode cX2_holds 8 = .ok (.getfield 9, 3) := by decide +kernel
theorem dX2_holds_11 : decode cX2_holds 11 = .ok (.iload_n 1, 1) := by decide +kernel
theorem dX2_holds_12 : decode cX2_holds 12 = .ok (.iaload, 1) := by decide +kernel
theorem dX2_holds_13 : decode cX2_holds 13 = .ok (.iconst (-1), 1) := by decide +kernel
theorem dX2_holds_14 : decode cX2_holds 14 = .ok (.if_icmp .eq 7, 3) := by decide +kernel
theorem dX2_holds_17 : decode cX2_holds 17 = .ok (.iconst 1, 1) := by decide +kernel
theorem dX2_holds_18 : decode cX2_holds 18 = .ok (.goto 4, 3) := by decide +kernel
theorem dX2_holds_21 : decode cX2_holds 21 = .ok (.iconst 0, 1) := by decide +kernel
theorem dX2_holds_22 : decode cX2_holds 22 = .ok (.ireturn, 1) := by decide +kernel
def f_X2_holds (p1 : Int32) (M : Mem) : Bool :=
  if (f_X4_isBlockPointer p1) then if (M 15 p1.toNatClampNeg) = (-1) then false
    else true
  else false
set_option maxRecDepth 100000 in
set_option maxHeartbeats 4000000 in
theorem k_X2_holds (q : ZQ) (p1 : Int32) (M : Mem) : Zc (zgX q) mX2_holds 0 0 [.inr 3, .inl p1] M (wB M (f_X2_holds p1 M)) := by
  refine Zc.of (by decide) zi_X2_holds.1 (Nat.le_of_ble_eq_true rfl) rfl ?_
  show Zg _ _ _ _ _ _ (zlet (f_X2_holds p1 M) (wB M)) _ _ _ _
  unfold f_X2_holds
  refine zg_iload_n (x := p1) dX2_holds_0 rfl ?_
  refine zg_cN1 (As := [.inl p1]) (S := []) (v := bI ((f_X4_isBlockPointer p1))) dX2_holds_1 zk_X2_25 (k_X4_isBlockPointer q p1 M) rfl ⟨by decide, by decide⟩ ⟨by decide, by decide⟩ rfl (Nat.le_of_ble_eq_true rfl) ?_
  refine zg_st (pc' := 4) (L' := [some (.inr 3), some (.inl p1)]) (S' := [.inl (bI ((f_X4_isBlockPointer p1)))]) (M' := M) rfl rfl rfl rfl ?_
  refine zg_ifbe (tgt := 21) dX2_holds_4 rfl (fun c4 => ?_) (fun c4 => ?_)
  · refine zg_st (pc' := 7) (L' := [some (.inr 3), some (.inl p1)]) (S' := []) (M' := M) rfl rfl rfl rfl ?_
    refine zg_aload_n (x := 3) dX2_holds_7 rfl ?_
    refine zg_getf (v := .inr 15) dX2_holds_8 zf_X2_9 rfl rfl rfl ?_
    refine zg_iload_n (x := p1) dX2_holds_11 rfl ?_
    refine zg_iald dX2_holds_12 rfl (by simp only [q_isFile, q_isBlock, q_isBlockOfFile, q_isMirror, q_isSideOfMirror, q_isCell, q_isPlaceNumber, q_isCellOnSide, q_isPointer, q_isBlockPointer, vp_in_iff, Int32.lt_iff_toInt_lt, Int32.le_iff_toInt_le, Int32.reduceToInt] at c4 ⊢; omega) ?_
    refine zg_iconst (v := (-1)) dX2_holds_13 rfl ?_
    refine zg_icmpz (tgt := 21) dX2_holds_14 rfl rfl (fun c14 => ?_) (fun c14 => ?_)
    · refine zg_st (pc' := 21) (L' := [some (.inr 3), some (.inl p1)]) (S' := []) (M' := M) rfl rfl rfl rfl ?_
      refine zg_iconst (v := 0) dX2_holds_21 rfl ?_
      exact zg_iret dX2_holds_22 rfl rfl ⟨by decide, by decide⟩ rfl
    · refine zg_st (pc' := 17) (L' := [some (.inr 3), some (.inl p1)]) (S' := []) (M' := M) rfl rfl rfl rfl ?_
      refine zg_iconst (v := 1) dX2_holds_17 rfl ?_
      refine zg_goto (tgt := 22) dX2_holds_18 rfl ?_
      refine zg_st (pc' := 22) (L' := [some (.inr 3), some (.inl p1)]) (S' := [.inl 1]) (M' := M) rfl rfl rfl rfl ?_
      exact zg_iret dX2_holds_22 rfl rfl ⟨by decide, by decide⟩ rfl
  · refine zg_st (pc' := 21) (L' := [some (.inr 3), some (.inl p1)]) (S' := []) (M' := M) rfl rfl rfl rfl ?_
    refine zg_iconst (v := 0) dX2_holds_21 rfl ?_
    exact zg_iret dX2_holds_22 rfl rfl ⟨by decide, by decide⟩ rfl
theorem dX2_changeOf_0 : decode cX2_changeOf 0 = .ok (.iload_n 1, 1) := by decide +kernel
theorem dX2_changeOf_1 : decode cX2_changeOf 1 = .ok (.invokestatic 25, 3) := by decide +kernel
theorem dX2_changeOf_4 : decode cX2_changeOf 4 = .ok (.ifCond .eq 12, 3) := by decide +kernel
theorem dX2_changeOf_7 : decode cX2_changeOf 7 = .ok (.aload_n 0, 1) := by decide +kernel
theorem dX2_changeOf_8 : decode cX2_changeOf 8 = .ok (.getfield 9, 3) := by decide +kernel
theorem dX2_changeOf_11 : decode cX2_changeOf 11 = .ok (.iload_n 1, 1) := by decide +kernel
theorem dX2_changeOf_12 : decode cX2_changeOf 12 = .ok (.iaload, 1) := by decide +kernel
theorem dX2_changeOf_13 : decode cX2_changeOf 13 = .ok (.goto 4, 3) := by decide +kernel
theorem dX2_changeOf_16 : decode cX2_changeOf 16 = .ok (.iconst (-1), 1) := by decide +kernel
theorem dX2_changeOf_17 : decode cX2_changeOf 17 = .ok (.ireturn, 1) := by decide +kernel
def f_X2_changeOf (p1 : Int32) (M : Mem) : Int32 :=
  if (f_X4_isBlockPointer p1) then (M 15 p1.toNatClampNeg)
  else (-1)
set_option maxRecDepth 100000 in
set_option maxHeartbeats 4000000 in
theorem k_X2_changeOf (q : ZQ) (p1 : Int32) (M : Mem) : Zc (zgX q) mX2_changeOf 0 0 [.inr 3, .inl p1] M (wI M (f_X2_changeOf p1 M)) := by
  refine Zc.of (by decide) zi_X2_changeOf.1 (Nat.le_of_ble_eq_true rfl) rfl ?_
  show Zg _ _ _ _ _ _ (zlet (f_X2_changeOf p1 M) (wI M)) _ _ _ _
  unfold f_X2_changeOf
  refine zg_iload_n (x := p1) dX2_changeOf_0 rfl ?_
  refine zg_cN1 (As := [.inl p1]) (S := []) (v := bI ((f_X4_isBlockPointer p1))) dX2_changeOf_1 zk_X2_25 (k_X4_isBlockPointer q p1 M) rfl ⟨by decide, by decide⟩ ⟨by decide, by decide⟩ rfl (Nat.le_of_ble_eq_true rfl) ?_
  refine zg_st (pc' := 4) (L' := [some (.inr 3), some (.inl p1)]) (S' := [.inl (bI ((f_X4_isBlockPointer p1)))]) (M' := M) rfl rfl rfl rfl ?_
  refine zg_ifbe (tgt := 16) dX2_changeOf_4 rfl (fun c4 => ?_) (fun c4 => ?_)
  · refine zg_st (pc' := 7) (L' := [some (.inr 3), some (.inl p1)]) (S' := []) (M' := M) rfl rfl rfl rfl ?_
    refine zg_aload_n (x := 3) dX2_changeOf_7 rfl ?_
    refine zg_getf (v := .inr 15) dX2_changeOf_8 zf_X2_9 rfl rfl rfl ?_
    refine zg_iload_n (x := p1) dX2_changeOf_11 rfl ?_
    refine zg_iald dX2_changeOf_12 rfl (by simp only [q_isFile, q_isBlock, q_isBlockOfFile, q_isMirror, q_isSideOfMirror, q_isCell, q_isPlaceNumber, q_isCellOnSide, q_isPointer, q_isBlockPointer, vp_in_iff, Int32.lt_iff_toInt_lt, Int32.le_iff_toInt_le, Int32.reduceToInt] at c4 ⊢; omega) ?_
    refine zg_goto (tgt := 17) dX2_changeOf_13 rfl ?_
    refine zg_st (pc' := 17) (L' := [some (.inr 3), some (.inl p1)]) (S' := [.inl (M 15 p1.toNatClampNeg)]) (M' := M) rfl rfl rfl rfl ?_
    exact zg_iret dX2_changeOf_17 rfl rfl ⟨by decide, by decide⟩ rfl
  · refine zg_st (pc' := 16) (L' := [some (.inr 3), some (.inl p1)]) (S' := []) (M' := M) rfl rfl rfl rfl ?_
    refine zg_iconst (v := (-1)) dX2_changeOf_16 rfl ?_
    exact zg_iret dX2_changeOf_17 rfl rfl ⟨by decide, by decide⟩ rfl
theorem dX3_valueOf_0 : decode cX3_valueOf 0 = .ok (.iload_n 1, 1) := by decide +kernel
theorem dX3_valueOf_1 : decode cX3_valueOf 1 = .ok (.invokestatic 33, 3) := by decide +kernel
theorem dX3_valueOf_4 : decode cX3_valueOf 4 = .ok (.ifCond .eq 12, 3) := by decide +kernel
theorem dX3_valueOf_7 : decode cX3_valueOf 7 = .ok (.aload_n 0, 1) := by decide +kernel
theorem dX3_valueOf_8 : decode cX3_valueOf 8 = .ok (.getfield 9, 3) := by decide +kernel
theorem dX3_valueOf_11 : decode cX3_valueOf 11 = .ok (.iload_n 1, 1) := by decide +kernel
theorem dX3_valueOf_12 : decode cX3_valueOf 12 = .ok (.iaload, 1) := by decide +kernel
theorem dX3_valueOf_13 : decode cX3_valueOf 13 = .ok (.goto 4, 3) := by decide +kernel
theorem dX3_valueOf_16 : decode cX3_valueOf 16 = .ok (.iconst 0, 1) := by decide +kernel
theorem dX3_valueOf_17 : decode cX3_valueOf 17 = .ok (.ireturn, 1) := by decide +kernel
def f_X3_valueOf (p1 : Int32) (M : Mem) : Int32 :=
  if (f_X4_isBlockPointer p1) then (M 10 p1.toNatClampNeg)
  else 0
set_option maxRecDepth 100000 in
set_option maxHeartbeats 4000000 in
theorem k_X3_valueOf (q : ZQ) (p1 : Int32) (M : Mem) : Zc (zgX q) mX3_valueOf 0 0 [.inr 2, .inl p1] M (wI M (f_X3_valueOf p1 M)) := by
  refine Zc.of (by decide) zi_X3_valueOf.1 (Nat.le_of_ble_eq_true rfl) rfl ?_
  show Zg _ _ _ _ _ _ (zlet (f_X3_valueOf p1 M) (wI M)) _ _ _ _
  unfold f_X3_valueOf
  refine zg_iload_n (x := p1) dX3_valueOf_0 rfl ?_
  refine zg_cN1 (As := [.inl p1]) (S := []) (v := bI ((f_X4_isBlockPointer p1))) dX3_valueOf_1 zk_X3_33 (k_X4_isBlockPointer q p1 M) rfl ⟨by decide, by decide⟩ ⟨by decide, by decide⟩ rfl (Nat.le_of_ble_eq_true rfl) ?_
  refine zg_st (pc' := 4) (L' := [some (.inr 2), some (.inl p1)]) (S' := [.inl (bI ((f_X4_isBlockPointer p1)))]) (M' := M) rfl rfl rfl rfl ?_
  refine zg_ifbe (tgt := 16) dX3_valueOf_4 rfl (fun c4 => ?_) (fun c4 => ?_)
  · refine zg_st (pc' := 7) (L' := [some (.inr 2), some (.inl p1)]) (S' := []) (M' := M) rfl rfl rfl rfl ?_
    refine zg_aload_n (x := 2) dX3_valueOf_7 rfl ?_
    refine zg_getf (v := .inr 10) dX3_valueOf_8 zf_X3_9 rfl rfl rfl ?_
    refine zg_iload_n (x := p1) dX3_valueOf_11 rfl ?_
    refine zg_iald dX3_valueOf_12 rfl (by simp only [q_isFile, q_isBlock, q_isBlockOfFile, q_isMirror, q_isSideOfMirror, q_isCell, q_isPlaceNumber, q_isCellOnSide, q_isPointer, q_isBlockPointer, vp_in_iff, Int32.lt_iff_toInt_lt, Int32.le_iff_toInt_le, Int32.reduceToInt] at c4 ⊢; omega) ?_
    refine zg_goto (tgt := 17) dX3_valueOf_13 rfl ?_
    refine zg_st (pc' := 17) (L' := [some (.inr 2), some (.inl p1)]) (S' := [.inl (M 10 p1.toNatClampNeg)]) (M' := M) rfl rfl rfl rfl ?_
    exact zg_iret dX3_valueOf_17 rfl rfl ⟨by decide, by decide⟩ rfl
  · refine zg_st (pc' := 16) (L' := [some (.inr 2), some (.inl p1)]) (S' := []) (M' := M) rfl rfl rfl rfl ?_
    refine zg_iconst (v := 0) dX3_valueOf_16 rfl ?_
    exact zg_iret dX3_valueOf_17 rfl rfl ⟨by decide, by decide⟩ rfl
theorem dX2_change_0 : decode cX2_change 0 = .ok (.iload_n 1, 1) := by decide +kernel
theorem dX2_change_1 : decode cX2_change 1 = .ok (.invokestatic 25, 3) := by decide +kernel
theorem dX2_change_4 : decode cX2_change 4 = .ok (.ifCond .eq 10, 3) := by decide +kernel
theorem dX2_change_7 : decode cX2_change 7 = .ok (.aload_n 0, 1) := by decide +kernel
theorem dX2_change_8 : decode cX2_change 8 = .ok (.getfield 9, 3) := by decide +kernel
theorem dX2_change_11 : decode cX2_change 11 = .ok (.iload_n 1, 1) := by decide +kernel
theorem dX2_change_12 : decode cX2_change 12 = .ok (.iload_n 2, 1) := by decide +kernel
theorem dX2_change_13 : decode cX2_change 13 = .ok (.iastore, 1) := by decide +kernel
theorem dX2_change_14 : decode cX2_change 14 = .ok (.return_, 1) := by decide +kernel
def f_X2_change (p1 : Int32) (p2 : Int32) (M : Mem) : Mem :=
  if (f_X4_isBlockPointer p1) then (mup M 15 p1.toNatClampNeg p2)
  else M
set_option maxRecDepth 100000 in
set_option maxHeartbeats 4000000 in
theorem k_X2_change (q : ZQ) (p1 : Int32) (p2 : Int32) (M : Mem) : Zc (zgX q) mX2_change 0 0 [.inr 3, .inl p1, .inl p2] M (wV (f_X2_change p1 p2 M)) := by
  refine Zc.of (by decide) zi_X2_change.1 (Nat.le_of_ble_eq_true rfl) rfl ?_
  show Zg _ _ _ _ _ _ (zlet (f_X2_change p1 p2 M) wV) _ _ _ _
  unfold f_X2_change
  refine zg_iload_n (x := p1) dX2_change_0 rfl ?_
  refine zg_cN1 (As := [.inl p1]) (S := []) (v := bI ((f_X4_isBlockPointer p1))) dX2_change_1 zk_X2_25 (k_X4_isBlockPointer q p1 M) rfl ⟨by decide, by decide⟩ ⟨by decide, by decide⟩ rfl (Nat.le_of_ble_eq_true rfl) ?_
  refine zg_st (pc' := 4) (L' := [some (.inr 3), some (.inl p1), some (.inl p2)]) (S' := [.inl (bI ((f_X4_isBlockPointer p1)))]) (M' := M) rfl rfl rfl rfl ?_
  refine zg_ifbe (tgt := 14) dX2_change_4 rfl (fun c4 => ?_) (fun c4 => ?_)
  · refine zg_st (pc' := 7) (L' := [some (.inr 3), some (.inl p1), some (.inl p2)]) (S' := []) (M' := M) rfl rfl rfl rfl ?_
    refine zg_aload_n (x := 3) dX2_change_7 rfl ?_
    refine zg_getf (v := .inr 15) dX2_change_8 zf_X2_9 rfl rfl rfl ?_
    refine zg_iload_n (x := p1) dX2_change_11 rfl ?_
    refine zg_iload_n (x := p2) dX2_change_12 rfl ?_
    refine zg_iast dX2_change_13 rfl (by simp only [q_isFile, q_isBlock, q_isBlockOfFile, q_isMirror, q_isSideOfMirror, q_isCell, q_isPlaceNumber, q_isCellOnSide, q_isPointer, q_isBlockPointer, vp_in_iff, Int32.lt_iff_toInt_lt, Int32.le_iff_toInt_le, Int32.reduceToInt] at c4 ⊢; omega) ?_
    exact zg_vret dX2_change_14 rfl ⟨by decide, by decide⟩ rfl
  · refine zg_st (pc' := 14) (L' := [some (.inr 3), some (.inl p1), some (.inl p2)]) (S' := []) (M' := M) rfl rfl rfl rfl ?_
    exact zg_vret dX2_change_14 rfl ⟨by decide, by decide⟩ rfl
theorem dX3_placeOf_0 : decode cX3_placeOf 0 = .ok (.iload_n 1, 1) := by decide +kernel
theorem dX3_placeOf_1 : decode cX3_placeOf 1 = .ok (.invokestatic 41, 3) := by decide +kernel
theorem dX3_placeOf_4 : decode cX3_placeOf 4 = .ok (.ifCond .ne 5, 3) := by decide +kernel
theorem dX3_placeOf_7 : decode cX3_placeOf 7 = .ok (.iconst (-1), 1) := by decide +kernel
theorem dX3_placeOf_8 : decode cX3_placeOf 8 = .ok (.ireturn, 1) := by decide +kernel
theorem dX3_placeOf_9 : decode cX3_placeOf 9 = .ok (.iload_n 2, 1) := by decide +kernel
theorem dX3_placeOf_10 : decode cX3_placeOf 10 = .ok (.ifCond .ne 10, 3) := by decide +kernel
theorem dX3_placeOf_13 : decode cX3_placeOf 13 = .ok (.aload_n 0, 1) := by decide +kernel
theorem dX3_placeOf_14 : decode cX3_placeOf 14 = .ok (.getfield 21, 3) := by decide +kernel
theorem dX3_placeOf_17 : decode cX3_placeOf 17 = .ok (.iload_n 1, 1) := by decide +kernel
theorem dX3_placeOf_18 : decode cX3_placeOf 18 = .ok (.iaload, 1) := by decide +kernel
theorem dX3_placeOf_19 : decode cX3_placeOf 19 = .ok (.ireturn, 1) := by decide +kernel
theorem dX3_placeOf_20 : decode cX3_placeOf 20 = .ok (.iload_n 2, 1) := by decide +kernel
theorem dX3_placeOf_21 : decode cX3_placeOf 21 = .ok (.iconst 1, 1) := by decide +kernel
theorem dX3_placeOf_22 : decode cX3_placeOf 22 = .ok (.if_icmp .ne 12, 3) := by decide +kernel
theorem dX3_placeOf_25 : decode cX3_placeOf 25 = .ok (.aload_n 0, 1) := by decide +kernel
theorem dX3_placeOf_26 : decode cX3_placeOf 26 = .ok (.getfield 24, 3) := by decide +kernel
theorem dX3_placeOf_29 : decode cX3_placeOf 29 = .ok (.iload_n 1, 1) := by decide +kernel
theorem dX3_placeOf_30 : decode cX3_placeOf 30 = .ok (.iaload, 1) := by decide +kernel
theorem dX3_placeOf_31 : decode cX3_placeOf 31 = .ok (.goto 4, 3) := by decide +kernel
theorem dX3_placeOf_34 : decode cX3_placeOf 34 = .ok (.iconst (-1), 1) := by decide +kernel
theorem dX3_placeOf_35 : decode cX3_placeOf 35 = .ok (.ireturn, 1) := by decide +kernel
def f_X3_placeOf (p1 : Int32) (p2 : Int32) (M : Mem) : Int32 :=
  if (f_X4_isPointer p1) then if ¬ p2 = 0 then if ¬ p2 = 1 then (-1)
      else (M 12 p1.toNatClampNeg)
    else (M 11 p1.toNatClampNeg)
  else (-1)
set_option maxRecDepth 100000 in
set_option maxHeartbeats 4000000 in
theorem k_X3_placeOf (q : ZQ) (p1 : Int32) (p2 : Int32) (M : Mem) : Zc (zgX q) mX3_placeOf 0 0 [.inr 2, .inl p1, .inl p2] M (wI M (f_X3_placeOf p1 p2 M)) := by
  refine Zc.of (by decide) zi_X3_placeOf.1 (Nat.le_of_ble_eq_true rfl) rfl ?_
  show Zg _ _ _ _ _ _ (zlet (f_X3_placeOf p1 p2 M) (wI M)) _ _ _ _
  unfold f_X3_placeOf
  refine zg_iload_n (x := p1) dX3_placeOf_0 rfl ?_
  refine zg_cN1 (As := [.inl p1]) (S := []) (v := bI ((f_X4_isPointer p1))) dX3_placeOf_1 zk_X3_41 (k_X4_isPointer q p1 M) rfl ⟨by decide, by decide⟩ ⟨by decide, by decide⟩ rfl (Nat.le_of_ble_eq_true rfl) ?_
  refine zg_st (pc' := 4) (L' := [some (.inr 2), some (.inl p1), some (.inl p2)]) (S' := [.inl (bI ((f_X4_isPointer p1)))]) (M' := M) rfl rfl rfl rfl ?_
  refine zg_ifbn (tgt := 9) dX3_placeOf_4 rfl (fun c4 => ?_) (fun c4 => ?_)
  · refine zg_st (pc' := 9) (L' := [some (.inr 2), some (.inl p1), some (.inl p2)]) (S' := []) (M' := M) rfl rfl rfl rfl ?_
    refine zg_iload_n (x := p2) dX3_placeOf_9 rfl ?_
    refine zg_ifz (tgt := 20) dX3_placeOf_10 rfl rfl (fun c10 => ?_) (fun c10 => ?_)
    · refine zg_st (pc' := 20) (L' := [some (.inr 2), some (.inl p1), some (.inl p2)]) (S' := []) (M' := M) rfl rfl rfl rfl ?_
      refine zg_iload_n (x := p2) dX3_placeOf_20 rfl ?_
      refine zg_iconst (v := 1) dX3_placeOf_21 rfl ?_
      refine zg_icmpz (tgt := 34) dX3_placeOf_22 rfl rfl (fun c22 => ?_) (fun c22 => ?_)
      · refine zg_st (pc' := 34) (L' := [some (.inr 2), some (.inl p1), some (.inl p2)]) (S' := []) (M' := M) rfl rfl rfl rfl ?_
        refine zg_iconst (v := (-1)) dX3_placeOf_34 rfl ?_
        exact zg_iret dX3_placeOf_35 rfl rfl ⟨by decide, by decide⟩ rfl
      · refine zg_st (pc' := 25) (L' := [some (.inr 2), some (.inl p1), some (.inl p2)]) (S' := []) (M' := M) rfl rfl rfl rfl ?_
        refine zg_aload_n (x := 2) dX3_placeOf_25 rfl ?_
        refine zg_getf (v := .inr 12) dX3_placeOf_26 zf_X3_24 rfl rfl rfl ?_
        refine zg_iload_n (x := p1) dX3_placeOf_29 rfl ?_
        refine zg_iald dX3_placeOf_30 rfl (by simp only [q_isFile, q_isBlock, q_isBlockOfFile, q_isMirror, q_isSideOfMirror, q_isCell, q_isPlaceNumber, q_isCellOnSide, q_isPointer, q_isBlockPointer, vp_in_iff, Int32.lt_iff_toInt_lt, Int32.le_iff_toInt_le, Int32.reduceToInt] at c4 c10 c22 ⊢; omega) ?_
        refine zg_goto (tgt := 35) dX3_placeOf_31 rfl ?_
        refine zg_st (pc' := 35) (L' := [some (.inr 2), some (.inl p1), some (.inl p2)]) (S' := [.inl (M 12 p1.toNatClampNeg)]) (M' := M) rfl rfl rfl rfl ?_
        exact zg_iret dX3_placeOf_35 rfl rfl ⟨by decide, by decide⟩ rfl
    · refine zg_st (pc' := 13) (L' := [some (.inr 2), some (.inl p1), some (.inl p2)]) (S' := []) (M' := M) rfl rfl rfl rfl ?_
      refine zg_aload_n (x := 2) dX3_placeOf_13 rfl ?_
      refine zg_getf (v := .inr 11) dX3_placeOf_14 zf_X3_21 rfl rfl rfl ?_
      refine zg_iload_n (x := p1) dX3_placeOf_17 rfl ?_
      refine zg_iald dX3_placeOf_18 rfl (by simp only [q_isFile, q_isBlock, q_isBlockOfFile, q_isMirror, q_isSideOfMirror, q_isCell, q_isPlaceNumber, q_isCellOnSide, q_isPointer, q_isBlockPointer, vp_in_iff, Int32.lt_iff_toInt_lt, Int32.le_iff_toInt_le, Int32.reduceToInt] at c4 c10 ⊢; omega) ?_
      exact zg_iret dX3_placeOf_19 rfl rfl ⟨by decide, by decide⟩ rfl
  · refine zg_st (pc' := 7) (L' := [some (.inr 2), some (.inl p1), some (.inl p2)]) (S' := []) (M' := M) rfl rfl rfl rfl ?_
    refine zg_iconst (v := (-1)) dX3_placeOf_7 rfl ?_
    exact zg_iret dX3_placeOf_8 rfl rfl ⟨by decide, by decide⟩ rfl
theorem dX3_isMissing_0 : decode cX3_isMissing 0 = .ok (.aload_n 0, 1) := by decide +kernel
theorem dX3_isMissing_1 : decode cX3_isMissing 1 = .ok (.iload_n 1, 1) := by decide +kernel
theorem dX3_isMissing_2 : decode cX3_isMissing 2 = .ok (.iconst 0, 1) := by decide +kernel
theorem dX3_isMissing_3 : decode cX3_isMissing 3 = .ok (.invokevirtual 37, 3) := by decide +kernel
theorem dX3_isMissing_6 : decode cX3_isMissing 6 = .ok (.iconst (-1), 1) := by decide +kernel
theorem dX3_isMissing_7 : decode cX3_isMissing 7 = .ok (.if_icmp .ne 7, 3) := by decide +kernel
theorem dX3_isMissing_10 : decode cX3_isMissing 10 = .ok (.iconst 1, 1) := by decide +kernel
theorem dX3_isMissing_11 : decode cX3_isMissing 11 = .ok (.goto 4, 3) := by decide +kernel
theorem dX3_isMissing_14 : decode cX3_isMissing 14 = .ok (.iconst 0, 1) := by decide +kernel
theorem dX3_isMissing_15 : decode cX3_isMissing 15 = .ok (.ireturn, 1) := by decide +kernel
def f_X3_isMissing (p1 : Int32) (M : Mem) : Bool :=
  if ¬ (f_X3_placeOf p1 0 M) = (-1) then false
  else true
set_option maxRecDepth 100000 in
set_option maxHeartbeats 4000000 in
theorem k_X3_isMissing (q : ZQ) (p1 : Int32) (M : Mem) : Zc (zgX q) mX3_isMissing 0 0 [.inr 2, .inl p1] M (wB M (f_X3_isMissing p1 M)) := by
  refine Zc.of (by decide) zi_X3_isMissing.1 (Nat.le_of_ble_eq_true rfl) rfl ?_
  show Zg _ _ _ _ _ _ (zlet (f_X3_isMissing p1 M) (wB M)) _ _ _ _
  unfold f_X3_isMissing
  refine zg_aload_n (x := 2) dX3_isMissing_0 rfl ?_
  refine zg_iload_n (x := p1) dX3_isMissing_1 rfl ?_
  refine zg_iconst (v := 0) dX3_isMissing_2 rfl ?_
  refine zg_cV1 (As := [.inl p1, .inl 0]) (S := []) (v := (f_X3_placeOf p1 0 M)) dX3_isMissing_3 zk_X3_37 (k_X3_placeOf q p1 0 M) rfl rfl ⟨by decide, by decide⟩ ⟨by decide, by decide⟩ rfl (Nat.le_of_ble_eq_true rfl) ?_
  refine zg_st (pc' := 6) (L' := [some (.inr 2), some (.inl p1)]) (S' := [.inl (f_X3_placeOf p1 0 M)]) (M' := M) rfl rfl rfl rfl ?_
  refine zg_iconst (v := (-1)) dX3_isMissing_6 rfl ?_
  refine zg_icmpz (tgt := 14) dX3_isMissing_7 rfl rfl (fun c7 => ?_) (fun c7 => ?_)
  · refine zg_st (pc' := 14) (L' := [some (.inr 2), some (.inl p1)]) (S' := []) (M' := M) rfl rfl rfl rfl ?_
    refine zg_iconst (v := 0) dX3_isMissing_14 rfl ?_
    exact zg_iret dX3_isMissing_15 rfl rfl ⟨by decide, by decide⟩ rfl
  · refine zg_st (pc' := 10) (L' := [some (.inr 2), some (.inl p1)]) (S' := []) (M' := M) rfl rfl rfl rfl ?_
    refine zg_iconst (v := 1) dX3_isMissing_10 rfl ?_
    refine zg_goto (tgt := 15) dX3_isMissing_11 rfl ?_
    refine zg_st (pc' := 15) (L' := [some (.inr 2), some (.inl p1)]) (S' := [.inl 1]) (M' := M) rfl rfl rfl rfl ?_
    exact zg_iret dX3_isMissing_15 rfl rfl ⟨by decide, by decide⟩ rfl
theorem dX0_isGood_0 : decode cX0_isGood 0 = .ok (.iload_n 1, 1) := by decide +kernel
theorem dX0_isGood_1 : decode cX0_isGood 1 = .ok (.iload_n 2, 1) := by decide +kernel
theorem dX0_isGood_2 : decode cX0_isGood 2 = .ok (.invokestatic 40, 3) := by decide +kernel
theorem dX0_isGood_5 : decode cX0_isGood 5 = .ok (.ifCond .eq 46, 3) := by decide +kernel
theorem dX0_isGood_8 : decode cX0_isGood 8 = .ok (.aload_n 0, 1) := by decide +kernel
theorem dX0_isGood_9 : decode cX0_isGood 9 = .ok (.getfield 9, 3) := by decide +kernel
theorem dX0_isGood_12 : decode cX0_isGood 12 = .ok (.iload_n 1, 1) := by decide +kernel
theorem dX0_isGood_13 : decode cX0_isGood 13 = .ok (.baload, 1) := by decide +kernel
theorem dX0_isGood_14 : decode cX0_isGood 14 = .ok (.ifCond .eq 37, 3) := by decide +kernel
theorem dX0_isGood_17 : decode cX0_isGood 17 = .ok (.aload_n 0, 1) := by decide +kernel
theorem dX0_isGood_18 : decode cX0_isGood 18 = .ok (.getfield 18, 3) := by decide +kernel
theorem dX0_isGood_21 : decode cX0_isGood 21 = .ok (.iload_n 1, 1) := by decide +kernel
theorem dX0_isGood_22 : decode cX0_isGood 22 = .ok (.invokestatic 43, 3) := by decide +kernel
theorem dX0_isGood_25 : decode cX0_isGood 25 = .ok (.iconst 2, 1) := by decide +kernel
theorem dX0_isGood_26 : decode cX0_isGood 26 = .ok (.imul, 1) := by decide +kernel
theorem dX0_isGood_27 : decode cX0_isGood 27 = .ok (.iload_n 2, 1) := by decide +kernel
theorem dX0_isGood_28 : decode cX0_isGood 28 = .ok (.iadd, 1) := by decide +kernel
theorem dX0_isGood_29 : decode cX0_isGood 29 = .ok (.baload, 1) := by decide +kernel
theorem dX0_isGood_30 : decode cX0_isGood 30 = .ok (.ifCond .ne 21, 3) := by decide +kernel
theorem dX0_isGood_33 : decode cX0_isGood 33 = .ok (.aload_n 0, 1) := by decide +kernel
theorem dX0_isGood_34 : decode cX0_isGood 34 = .ok (.getfield 15, 3) := by decide +kernel
theorem dX0_isGood_37 : decode cX0_isGood 37 = .ok (.iload_n 2, 1) := by decide +kernel
theorem dX0_isGood_38 : decode cX0_isGood 38 = .ok (.bipush 120, 2) := by decide +kernel
theorem dX0_isGood_40 : decode cX0_isGood 40 = .ok (.imul, 1) := by decide +kernel
theorem dX0_isGood_41 : decode cX0_isGood 41 = .ok (.iload_n 1, 1) := by decide +kernel
theorem dX0_isGood_42 : decode cX0_isGood 42 = .ok (.iadd, 1) := by decide +kernel
theorem dX0_isGood_43 : decode cX0_isGood 43 = .ok (.baload, 1) := by decide +kernel
theorem dX0_isGood_44 : decode cX0_isGood 44 = .ok (.ifCond .ne 7, 3) := by decide +kernel
theorem dX0_isGood_47 : decode cX0_isGood 47 = .ok (.iconst 1, 1) := by decide +kernel
theorem dX0_isGood_48 : decode cX0_isGood 48 = .ok (.goto 4, 3) := by decide +kernel
theorem dX0_isGood_51 : decode cX0_isGood 51 = .ok (.iconst 0, 1) := by decide +kernel
theorem dX0_isGood_52 : decode cX0_isGood 52 = .ok (.ireturn, 1) := by decide +kernel
def f_X0_isGood (p1 : Int32) (p2 : Int32) (M : Mem) : Bool :=
  if (f_X4_isCellOnSide p1 p2) then if (M 6 p1.toNatClampNeg) = 0 then false
    else if ¬ (M 8 (((f_X4_mirrorOf p1) * 2) + p2).toNatClampNeg) = 0 then false
    else if ¬ (M 7 ((p2 * 120) + p1).toNatClampNeg) = 0 then false
    else true
  else false
set_option maxRecDepth 100000 in
set_option maxHeartbeats 4000000 in
theorem k_X0_isGood (q : ZQ) (p1 : Int32) (p2 : Int32) (M : Mem) : Zc (zgX q) mX0_isGood 0 0 [.inr 1, .inl p1, .inl p2] M (wB M (f_X0_isGood p1 p2 M)) := by
  refine Zc.of (by decide) zi_X0_isGood.1 (Nat.le_of_ble_eq_true rfl) rfl ?_
  show Zg _ _ _ _ _ _ (zlet (f_X0_isGood p1 p2 M) (wB M)) _ _ _ _
  unfold f_X0_isGood
  refine zg_iload_n (x := p1) dX0_isGood_0 rfl ?_
  refine zg_iload_n (x := p2) dX0_isGood_1 rfl ?_
  refine zg_cN1 (As := [.inl p1, .inl p2]) (S := []) (v := bI ((f_X4_isCellOnSide p1 p2))) dX0_isGood_2 zk_X0_40 (k_X4_isCellOnSide q p1 p2 M) rfl ⟨by decide, by decide⟩ ⟨by decide, by decide⟩ rfl (Nat.le_of_ble_eq_true rfl) ?_
  refine zg_st (pc' := 5) (L' := [some (.inr 1), some (.inl p1), some (.inl p2)]) (S' := [.inl (bI ((f_X4_isCellOnSide p1 p2)))]) (M' := M) rfl rfl rfl rfl ?_
  refine zg_ifbe (tgt := 51) dX0_isGood_5 rfl (fun c5 => ?_) (fun c5 => ?_)
  · refine zg_st (pc' := 8) (L' := [some (.inr 1), some (.inl p1), some (.inl p2)]) (S' := []) (M' := M) rfl rfl rfl rfl ?_
    refine zg_aload_n (x := 1) dX0_isGood_8 rfl ?_
    refine zg_getf (v := .inr 6) dX0_isGood_9 zf_X0_9 rfl rfl rfl ?_
    refine zg_iload_n (x := p1) dX0_isGood_12 rfl ?_
    refine zg_zald dX0_isGood_13 rfl (by simp only [q_isFile, q_isBlock, q_isBlockOfFile, q_isMirror, q_isSideOfMirror, q_isCell, q_isPlaceNumber, q_isCellOnSide, q_isPointer, q_isBlockPointer, vp_in_iff, Int32.lt_iff_toInt_lt, Int32.le_iff_toInt_le, Int32.reduceToInt] at c5 ⊢; omega) ?_
    refine zg_ifz (tgt := 51) dX0_isGood_14 rfl rfl (fun c14 => ?_) (fun c14 => ?_)
    · refine zg_st (pc' := 51) (L' := [some (.inr 1), some (.inl p1), some (.inl p2)]) (S' := []) (M' := M) rfl rfl rfl rfl ?_
      refine zg_iconst (v := 0) dX0_isGood_51 rfl ?_
      exact zg_iret dX0_isGood_52 rfl rfl ⟨by decide, by decide⟩ rfl
    · refine zg_st (pc' := 17) (L' := [some (.inr 1), some (.inl p1), some (.inl p2)]) (S' := []) (M' := M) rfl rfl rfl rfl ?_
      refine zg_aload_n (x := 1) dX0_isGood_17 rfl ?_
      refine zg_getf (v := .inr 8) dX0_isGood_18 zf_X0_18 rfl rfl rfl ?_
      refine zg_iload_n (x := p1) dX0_isGood_21 rfl ?_
      refine zg_cN1 (As := [.inl p1]) (S := [.inr 8]) (v := (f_X4_mirrorOf p1)) dX0_isGood_22 zk_X0_43 (k_X4_mirrorOf q p1 M) rfl ⟨by decide, by decide⟩ ⟨by decide, by decide⟩ rfl (Nat.le_of_ble_eq_true rfl) ?_
      refine zg_st (pc' := 25) (L' := [some (.inr 1), some (.inl p1), some (.inl p2)]) (S' := [.inl (f_X4_mirrorOf p1), .inr 8]) (M' := M) rfl rfl rfl rfl ?_
      refine zg_iconst (v := 2) dX0_isGood_25 rfl ?_
      refine zg_imul dX0_isGood_26 ?_
      refine zg_iload_n (x := p2) dX0_isGood_27 rfl ?_
      refine zg_iadd dX0_isGood_28 ?_
      refine zg_zald dX0_isGood_29 rfl (z_ixm (by simp only [q_isFile, q_isBlock, q_isBlockOfFile, q_isMirror, q_isSideOfMirror, q_isCell, q_isPlaceNumber, q_isCellOnSide, q_isPointer, q_isBlockPointer, vp_in_iff, Int32.lt_iff_toInt_lt, Int32.le_iff_toInt_le, Int32.reduceToInt] at c5 c14 ⊢; omega) (by simp only [q_isFile, q_isBlock, q_isBlockOfFile, q_isMirror, q_isSideOfMirror, q_isCell, q_isPlaceNumber, q_isCellOnSide, q_isPointer, q_isBlockPointer, vp_in_iff, Int32.lt_iff_toInt_lt, Int32.le_iff_toInt_le, Int32.reduceToInt] at c5 c14 ⊢; omega)) ?_
      refine zg_ifz (tgt := 51) dX0_isGood_30 rfl rfl (fun c30 => ?_) (fun c30 => ?_)
      · refine zg_st (pc' := 51) (L' := [some (.inr 1), some (.inl p1), some (.inl p2)]) (S' := []) (M' := M) rfl rfl rfl rfl ?_
        refine zg_iconst (v := 0) dX0_isGood_51 rfl ?_
        exact zg_iret dX0_isGood_52 rfl rfl ⟨by decide, by decide⟩ rfl
      · refine zg_st (pc' := 33) (L' := [some (.inr 1), some (.inl p1), some (.inl p2)]) (S' := []) (M' := M) rfl rfl rfl rfl ?_
        refine zg_aload_n (x := 1) dX0_isGood_33 rfl ?_
        refine zg_getf (v := .inr 7) dX0_isGood_34 zf_X0_15 rfl rfl rfl ?_
        refine zg_iload_n (x := p2) dX0_isGood_37 rfl ?_
        refine zg_bipush (v := 120) dX0_isGood_38 rfl ?_
        refine zg_imul dX0_isGood_40 ?_
        refine zg_iload_n (x := p1) dX0_isGood_41 rfl ?_
        refine zg_iadd dX0_isGood_42 ?_
        refine zg_zald dX0_isGood_43 rfl (z_ix120 (by simp only [q_isFile, q_isBlock, q_isBlockOfFile, q_isMirror, q_isSideOfMirror, q_isCell, q_isPlaceNumber, q_isCellOnSide, q_isPointer, q_isBlockPointer, vp_in_iff, Int32.lt_iff_toInt_lt, Int32.le_iff_toInt_le, Int32.reduceToInt] at c5 c14 c30 ⊢; omega) (by simp only [q_isFile, q_isBlock, q_isBlockOfFile, q_isMirror, q_isSideOfMirror, q_isCell, q_isPlaceNumber, q_isCellOnSide, q_isPointer, q_isBlockPointer, vp_in_iff, Int32.lt_iff_toInt_lt, Int32.le_iff_toInt_le, Int32.reduceToInt] at c5 c14 c30 ⊢; omega)) ?_
        refine zg_ifz (tgt := 51) dX0_isGood_44 rfl rfl (fun c44 => ?_) (fun c44 => ?_)
        · refine zg_st (pc' := 51) (L' := [some (.inr 1), some (.inl p1), some (.inl p2)]) (S' := []) (M' := M) rfl rfl rfl rfl ?_
          refine zg_iconst (v := 0) dX0_isGood_51 rfl ?_
          exact zg_iret dX0_isGood_52 rfl rfl ⟨by decide, by decide⟩ rfl
        · refine zg_st (pc' := 47) (L' := [some (.inr 1), some (.inl p1), some (.inl p2)]) (S' := []) (M' := M) rfl rfl rfl rfl ?_
          refine zg_iconst (v := 1) dX0_isGood_47 rfl ?_
          refine zg_goto (tgt := 52) dX0_isGood_48 rfl ?_
          refine zg_st (pc' := 52) (L' := [some (.inr 1), some (.inl p1), some (.inl p2)]) (S' := [.inl 1]) (M' := M) rfl rfl rfl rfl ?_
          exact zg_iret dX0_isGood_52 rfl rfl ⟨by decide, by decide⟩ rfl
  · refine zg_st (pc' := 51) (L' := [some (.inr 1), some (.inl p1), some (.inl p2)]) (S' := []) (M' := M) rfl rfl rfl rfl ?_
    refine zg_iconst (v := 0) dX0_isGood_51 rfl ?_
    exact zg_iret dX0_isGood_52 rfl rfl ⟨by decide, by decide⟩ rfl
theorem dX0_hasSpoilt_0 : decode cX0_hasSpoilt 0 = .ok (.iload_n 1, 1) := by decide +kernel
theorem dX0_hasSpoilt_1 : decode cX0_hasSpoilt 1 = .ok (.iload_n 2, 1) := by decide +kernel
theorem dX0_hasSpoilt_2 : decode cX0_hasSpoilt 2 = .ok (.invokestatic 40, 3) := by decide +kernel
theorem dX0_hasSpoilt_5 : decode cX0_hasSpoilt 5 = .ok (.ifCond .eq 30, 3) := by decide +kernel
theorem dX0_hasSpoilt_8 : decode cX0_hasSpoilt 8 = .ok (.aload_n 0, 1) := by decide +kernel
theorem dX0_hasSpoilt_9 : decode cX0_hasSpoilt 9 = .ok (.getfield 9, 3) := by decide +kernel
theorem dX0_hasSpoilt_12 : decode cX0_hasSpoilt 12 = .ok (.iload_n 1, 1) := by decide +kernel
theorem dX0_hasSpoilt_13 : decode cX0_hasSpoilt 13 = .ok (.baload, 1) := by decide +kernel
theorem dX0_hasSpoilt_14 : decode cX0_hasSpoilt 14 = .ok (.ifCond .eq 21, 3) := by decide +kernel
theorem dX0_hasSpoilt_17 : decode cX0_hasSpoilt 17 = .ok (.aload_n 0, 1) := by decide +kernel
theorem dX0_hasSpoilt_18 : decode cX0_hasSpoilt 18 = .ok (.getfield 15, 3) := by decide +kernel
theorem dX0_hasSpoilt_21 : decode cX0_hasSpoilt 21 = .ok (.iload_n 2, 1) := by decide +kernel
theorem dX0_hasSpoilt_22 : decode cX0_hasSpoilt 22 = .ok (.bipush 120, 2) := by decide +kernel
theorem dX0_hasSpoilt_24 : decode cX0_hasSpoilt 24 = .ok (.imul, 1) := by decide +kernel
theorem dX0_hasSpoilt_25 : decode cX0_hasSpoilt 25 = .ok (.iload_n 1, 1) := by decide +kernel
theorem dX0_hasSpoilt_26 : decode cX0_hasSpoilt 26 = .ok (.iadd, 1) := by decide +kernel
theorem dX0_hasSpoilt_27 : decode cX0_hasSpoilt 27 = .ok (.baload, 1) := by decide +kernel
theorem dX0_hasSpoilt_28 : decode cX0_hasSpoilt 28 = .ok (.ifCond .eq 7, 3) := by decide +kernel
theorem dX0_hasSpoilt_31 : decode cX0_hasSpoilt 31 = .ok (.iconst 1, 1) := by decide +kernel
theorem dX0_hasSpoilt_32 : decode cX0_hasSpoilt 32 = .ok (.goto 4, 3) := by decide +kernel
theorem dX0_hasSpoilt_35 : decode cX0_hasSpoilt 35 = .ok (.iconst 0, 1) := by decide +kernel
theorem dX0_hasSpoilt_36 : decode cX0_hasSpoilt 36 = .ok (.ireturn, 1) := by decide +kernel
def f_X0_hasSpoilt (p1 : Int32) (p2 : Int32) (M : Mem) : Bool :=
  if (f_X4_isCellOnSide p1 p2) then if (M 6 p1.toNatClampNeg) = 0 then false
    else if (M 7 ((p2 * 120) + p1).toNatClampNeg) = 0 then false
    else true
  else false
set_option maxRecDepth 100000 in
set_option maxHeartbeats 4000000 in
theorem k_X0_hasSpoilt (q : ZQ) (p1 : Int32) (p2 : Int32) (M : Mem) : Zc (zgX q) mX0_hasSpoilt 0 0 [.inr 1, .inl p1, .inl p2] M (wB M (f_X0_hasSpoilt p1 p2 M)) := by
  refine Zc.of (by decide) zi_X0_hasSpoilt.1 (Nat.le_of_ble_eq_true rfl) rfl ?_
  show Zg _ _ _ _ _ _ (zlet (f_X0_hasSpoilt p1 p2 M) (wB M)) _ _ _ _
  unfold f_X0_hasSpoilt
  refine zg_iload_n (x := p1) dX0_hasSpoilt_0 rfl ?_
  refine zg_iload_n (x := p2) dX0_hasSpoilt_1 rfl ?_
  refine zg_cN1 (As := [.inl p1, .inl p2]) (S := []) (v := bI ((f_X4_isCellOnSide p1 p2))) dX0_hasSpoilt_2 zk_X0_40 (k_X4_isCellOnSide q p1 p2 M) rfl ⟨by decide, by decide⟩ ⟨by decide, by decide⟩ rfl (Nat.le_of_ble_eq_true rfl) ?_
  refine zg_st (pc' := 5) (L' := [some (.inr 1), some (.inl p1), some (.inl p2)]) (S' := [.inl (bI ((f_X4_isCellOnSide p1 p2)))]) (M' := M) rfl rfl rfl rfl ?_
  refine zg_ifbe (tgt := 35) dX0_hasSpoilt_5 rfl (fun c5 => ?_) (fun c5 => ?_)
  · refine zg_st (pc' := 8) (L' := [some (.inr 1), some (.inl p1), some (.inl p2)]) (S' := []) (M' := M) rfl rfl rfl rfl ?_
    refine zg_aload_n (x := 1) dX0_hasSpoilt_8 rfl ?_
    refine zg_getf (v := .inr 6) dX0_hasSpoilt_9 zf_X0_9 rfl rfl rfl ?_
    refine zg_iload_n (x := p1) dX0_hasSpoilt_12 rfl ?_
    refine zg_zald dX0_hasSpoilt_13 rfl (by simp only [q_isFile, q_isBlock, q_isBlockOfFile, q_isMirror, q_isSideOfMirror, q_isCell, q_isPlaceNumber, q_isCellOnSide, q_isPointer, q_isBlockPointer, vp_in_iff, Int32.lt_iff_toInt_lt, Int32.le_iff_toInt_le, Int32.reduceToInt] at c5 ⊢; omega) ?_
    refine zg_ifz (tgt := 35) dX0_hasSpoilt_14 rfl rfl (fun c14 => ?_) (fun c14 => ?_)
    · refine zg_st (pc' := 35) (L' := [some (.inr 1), some (.inl p1), some (.inl p2)]) (S' := []) (M' := M) rfl rfl rfl rfl ?_
      refine zg_iconst (v := 0) dX0_hasSpoilt_35 rfl ?_
      exact zg_iret dX0_hasSpoilt_36 rfl rfl ⟨by decide, by decide⟩ rfl
    · refine zg_st (pc' := 17) (L' := [some (.inr 1), some (.inl p1), some (.inl p2)]) (S' := []) (M' := M) rfl rfl rfl rfl ?_
      refine zg_aload_n (x := 1) dX0_hasSpoilt_17 rfl ?_
      refine zg_getf (v := .inr 7) dX0_hasSpoilt_18 zf_X0_15 rfl rfl rfl ?_
      refine zg_iload_n (x := p2) dX0_hasSpoilt_21 rfl ?_
      refine zg_bipush (v := 120) dX0_hasSpoilt_22 rfl ?_
      refine zg_imul dX0_hasSpoilt_24 ?_
      refine zg_iload_n (x := p1) dX0_hasSpoilt_25 rfl ?_
      refine zg_iadd dX0_hasSpoilt_26 ?_
      refine zg_zald dX0_hasSpoilt_27 rfl (z_ix120 (by simp only [q_isFile, q_isBlock, q_isBlockOfFile, q_isMirror, q_isSideOfMirror, q_isCell, q_isPlaceNumber, q_isCellOnSide, q_isPointer, q_isBlockPointer, vp_in_iff, Int32.lt_iff_toInt_lt, Int32.le_iff_toInt_le, Int32.reduceToInt] at c5 c14 ⊢; omega) (by simp only [q_isFile, q_isBlock, q_isBlockOfFile, q_isMirror, q_isSideOfMirror, q_isCell, q_isPlaceNumber, q_isCellOnSide, q_isPointer, q_isBlockPointer, vp_in_iff, Int32.lt_iff_toInt_lt, Int32.le_iff_toInt_le, Int32.reduceToInt] at c5 c14 ⊢; omega)) ?_
      refine zg_ifz (tgt := 35) dX0_hasSpoilt_28 rfl rfl (fun c28 => ?_) (fun c28 => ?_)
      · refine zg_st (pc' := 35) (L' := [some (.inr 1), some (.inl p1), some (.inl p2)]) (S' := []) (M' := M) rfl rfl rfl rfl ?_
        refine zg_iconst (v := 0) dX0_hasSpoilt_35 rfl ?_
        exact zg_iret dX0_hasSpoilt_36 rfl rfl ⟨by decide, by decide⟩ rfl
      · refine zg_st (pc' := 31) (L' := [some (.inr 1), some (.inl p1), some (.inl p2)]) (S' := []) (M' := M) rfl rfl rfl rfl ?_
        refine zg_iconst (v := 1) dX0_hasSpoilt_31 rfl ?_
        refine zg_goto (tgt := 36) dX0_hasSpoilt_32 rfl ?_
        refine zg_st (pc' := 36) (L' := [some (.inr 1), some (.inl p1), some (.inl p2)]) (S' := [.inl 1]) (M' := M) rfl rfl rfl rfl ?_
        exact zg_iret dX0_hasSpoilt_36 rfl rfl ⟨by decide, by decide⟩ rfl
  · refine zg_st (pc' := 35) (L' := [some (.inr 1), some (.inl p1), some (.inl p2)]) (S' := []) (M' := M) rfl rfl rfl rfl ?_
    refine zg_iconst (v := 0) dX0_hasSpoilt_35 rfl ?_
    exact zg_iret dX0_hasSpoilt_36 rfl rfl ⟨by decide, by decide⟩ rfl
theorem dX0_hasOnline_0 : decode cX0_hasOnline 0 = .ok (.iload_n 1, 1) := by decide +kernel
theorem dX0_hasOnline_1 : decode cX0_hasOnline 1 = .ok (.iload_n 2, 1) := by decide +kernel
theorem dX0_hasOnline_2 : decode cX0_hasOnline 2 = .ok (.invokestatic 25, 3) := by decide +kernel
theorem dX0_hasOnline_5 : decode cX0_hasOnline 5 = .ok (.ifCond .eq 20, 3) := by decide +kernel
theorem dX0_hasOnline_8 : decode cX0_hasOnline 8 = .ok (.aload_n 0, 1) := by decide +kernel
theorem dX0_hasOnline_9 : decode cX0_hasOnline 9 = .ok (.getfield 18, 3) := by decide +kernel
theorem dX0_hasOnline_12 : decode cX0_hasOnline 12 = .ok (.iload_n 1, 1) := by decide +kernel
theorem dX0_hasOnline_13 : decode cX0_hasOnline 13 = .ok (.iconst 2, 1) := by decide +kernel
theorem dX0_hasOnline_14 : decode cX0_hasOnline 14 = .ok (.imul, 1) := by decide +kernel
theorem dX0_hasOnline_15 : decode cX0_hasOnline 15 = .ok (.iload_n 2, 1) := by decide +kernel
theorem dX0_hasOnline_16 : decode cX0_hasOnline 16 = .ok (.iadd, 1) := by decide +kernel
theorem dX0_hasOnline_17 : decode cX0_hasOnline 17 = .ok (.baload, 1) := by decide +kernel
theorem dX0_hasOnline_18 : decode cX0_hasOnline 18 = .ok (.ifCond .ne 7, 3) := by decide +kernel
theorem dX0_hasOnline_21 : decode cX0_hasOnline 21 = .ok (.iconst 1, 1) := by decide +kernel
theorem dX0_hasOnline_22 : decode cX0_hasOnline 22 = .ok (.goto 4, 3) := by decide +kernel
theorem dX0_hasOnline_25 : decode cX0_hasOnline 25 = .ok (.iconst 0, 1) := by decide +kernel
theorem dX0_hasOnline_26 : decode cX0_hasOnline 26 = .ok (.ireturn, 1) := by decide +kernel
def f_X0_hasOnline (p1 : Int32) (p2 : Int32) (M : Mem) : Bool :=
  if (f_X4_isSideOfMirror p1 p2) then if ¬ (M 8 ((p1 * 2) + p2).toNatClampNeg) = 0 then false
    else true
  else false
set_option maxRecDepth 100000 in
set_option maxHeartbeats 4000000 in
theorem k_X0_hasOnline (q : ZQ) (p1 : Int32) (p2 : Int32) (M : Mem) : Zc (zgX q) mX0_hasOnline 0 0 [.inr 1, .inl p1, .inl p2] M (wB M (f_X0_hasOnline p1 p2 M)) := by
  refine Zc.of (by decide) zi_X0_hasOnline.1 (Nat.le_of_ble_eq_true rfl) rfl ?_
  show Zg _ _ _ _ _ _ (zlet (f_X0_hasOnline p1 p2 M) (wB M)) _ _ _ _
  unfold f_X0_hasOnline
  refine zg_iload_n (x := p1) dX0_hasOnline_0 rfl ?_
  refine zg_iload_n (x := p2) dX0_hasOnline_1 rfl ?_
  refine zg_cN1 (As := [.inl p1, .inl p2]) (S := []) (v := bI ((f_X4_isSideOfMirror p1 p2))) dX0_hasOnline_2 zk_X0_25 (k_X4_isSideOfMirror q p1 p2 M) rfl ⟨by decide, by decide⟩ ⟨by decide, by decide⟩ rfl (Nat.le_of_ble_eq_true rfl) ?_
  refine zg_st (pc' := 5) (L' := [some (.inr 1), some (.inl p1), some (.inl p2)]) (S' := [.inl (bI ((f_X4_isSideOfMirror p1 p2)))]) (M' := M) rfl rfl rfl rfl ?_
  refine zg_ifbe (tgt := 25) dX0_hasOnline_5 rfl (fun c5 => ?_) (fun c5 => ?_)
  · refine zg_st (pc' := 8) (L' := [some (.inr 1), some (.inl p1), some (.inl p2)]) (S' := []) (M' := M) rfl rfl rfl rfl ?_
    refine zg_aload_n (x := 1) dX0_hasOnline_8 rfl ?_
    refine zg_getf (v := .inr 8) dX0_hasOnline_9 zf_X0_18 rfl rfl rfl ?_
    refine zg_iload_n (x := p1) dX0_hasOnline_12 rfl ?_
    refine zg_iconst (v := 2) dX0_hasOnline_13 rfl ?_
    refine zg_imul dX0_hasOnline_14 ?_
    refine zg_iload_n (x := p2) dX0_hasOnline_15 rfl ?_
    refine zg_iadd dX0_hasOnline_16 ?_
    refine zg_zald dX0_hasOnline_17 rfl (z_ix2 (by simp only [q_isFile, q_isBlock, q_isBlockOfFile, q_isMirror, q_isSideOfMirror, q_isCell, q_isPlaceNumber, q_isCellOnSide, q_isPointer, q_isBlockPointer, vp_in_iff, Int32.lt_iff_toInt_lt, Int32.le_iff_toInt_le, Int32.reduceToInt] at c5 ⊢; omega) (by simp only [q_isFile, q_isBlock, q_isBlockOfFile, q_isMirror, q_isSideOfMirror, q_isCell, q_isPlaceNumber, q_isCellOnSide, q_isPointer, q_isBlockPointer, vp_in_iff, Int32.lt_iff_toInt_lt, Int32.le_iff_toInt_le, Int32.reduceToInt] at c5 ⊢; omega)) ?_
    refine zg_ifz (tgt := 25) dX0_hasOnline_18 rfl rfl (fun c18 => ?_) (fun c18 => ?_)
    · refine zg_st (pc' := 25) (L' := [some (.inr 1), some (.inl p1), some (.inl p2)]) (S' := []) (M' := M) rfl rfl rfl rfl ?_
      refine zg_iconst (v := 0) dX0_hasOnline_25 rfl ?_
      exact zg_iret dX0_hasOnline_26 rfl rfl ⟨by decide, by decide⟩ rfl
    · refine zg_st (pc' := 21) (L' := [some (.inr 1), some (.inl p1), some (.inl p2)]) (S' := []) (M' := M) rfl rfl rfl rfl ?_
      refine zg_iconst (v := 1) dX0_hasOnline_21 rfl ?_
      refine zg_goto (tgt := 26) dX0_hasOnline_22 rfl ?_
      refine zg_st (pc' := 26) (L' := [some (.inr 1), some (.inl p1), some (.inl p2)]) (S' := [.inl 1]) (M' := M) rfl rfl rfl rfl ?_
      exact zg_iret dX0_hasOnline_26 rfl rfl ⟨by decide, by decide⟩ rfl
  · refine zg_st (pc' := 25) (L' := [some (.inr 1), some (.inl p1), some (.inl p2)]) (S' := []) (M' := M) rfl rfl rfl rfl ?_
    refine zg_iconst (v := 0) dX0_hasOnline_25 rfl ?_
    exact zg_iret dX0_hasOnline_26 rfl rfl ⟨by decide, by decide⟩ rfl
theorem dX0_mark_0 : decode cX0_mark 0 = .ok (.iload_n 1, 1) := by decide +kernel
theorem dX0_mark_1 : decode cX0_mark 1 = .ok (.iload_n 2, 1) := by decide +kernel
theorem dX0_mark_2 : decode cX0_mark 2 = .ok (.invokestatic 40, 3) := by decide +kernel
theorem dX0_mark_5 : decode cX0_mark 5 = .ok (.ifCond .eq 15, 3) := by decide +kernel
theorem dX0_mark_8 : decode cX0_mark 8 = .ok (.aload_n 0, 1) := by decide +kernel
theorem dX0_mark_9 : decode cX0_mark 9 = .ok (.getfield 15, 3) := by decide +kernel
theorem dX0_mark_12 : decode cX0_mark 12 = .ok (.iload_n 2, 1) := by decide +kernel
theorem dX0_mark_13 : decode cX0_mark 13 = .ok (.bipush 120, 2) := by decide +kernel
theorem dX0_mark_15 : decode cX0_mark 15 = .ok (.imul, 1) := by decide +kernel
theorem dX0_mark_16 : decode cX0_mark 16 = .ok (.iload_n 1, 1) := by decide +kernel
theorem dX0_mark_17 : decode cX0_mark 17 = .ok (.iadd, 1) := by decide +kernel
theorem dX0_mark_18 : decode cX0_mark 18 = .ok (.iload_n 3, 1) := by decide +kernel
theorem dX0_mark_19 : decode cX0_mark 19 = .ok (.bastore, 1) := by decide +kernel
theorem dX0_mark_20 : decode cX0_mark 20 = .ok (.return_, 1) := by decide +kernel
def f_X0_mark (p1 : Int32) (p2 : Int32) (p3 : Bool) (M : Mem) : Mem :=
  if (f_X4_isCellOnSide p1 p2) then (mup M 7 ((p2 * 120) + p1).toNatClampNeg (bI p3))
  else M
set_option maxRecDepth 100000 in
set_option maxHeartbeats 4000000 in
theorem k_X0_mark (q : ZQ) (p1 : Int32) (p2 : Int32) (p3 : Bool) (M : Mem) : Zc (zgX q) mX0_mark 0 0 [.inr 1, .inl p1, .inl p2, .inl (bI p3)] M (wV (f_X0_mark p1 p2 p3 M)) := by
  refine Zc.of (by decide) zi_X0_mark.1 (Nat.le_of_ble_eq_true rfl) rfl ?_
  show Zg _ _ _ _ _ _ (zlet (f_X0_mark p1 p2 p3 M) wV) _ _ _ _
  unfold f_X0_mark
  refine zg_iload_n (x := p1) dX0_mark_0 rfl ?_
  refine zg_iload_n (x := p2) dX0_mark_1 rfl ?_
  refine zg_cN1 (As := [.inl p1, .inl p2]) (S := []) (v := bI ((f_X4_isCellOnSide p1 p2))) dX0_mark_2 zk_X0_40 (k_X4_isCellOnSide q p1 p2 M) rfl ⟨by decide, by decide⟩ ⟨by decide, by decide⟩ rfl (Nat.le_of_ble_eq_true rfl) ?_
  refine zg_st (pc' := 5) (L' := [some (.inr 1), some (.inl p1), some (.inl p2), some (.inl (bI p3))]) (S' := [.inl (bI ((f_X4_isCellOnSide p1 p2)))]) (M' := M) rfl rfl rfl rfl ?_
  refine zg_ifbe (tgt := 20) dX0_mark_5 rfl (fun c5 => ?_) (fun c5 => ?_)
  · refine zg_st (pc' := 8) (L' := [some (.inr 1), some (.inl p1), some (.inl p2), some (.inl (bI p3))]) (S' := []) (M' := M) rfl rfl rfl rfl ?_
    refine zg_aload_n (x := 1) dX0_mark_8 rfl ?_
    refine zg_getf (v := .inr 7) dX0_mark_9 zf_X0_15 rfl rfl rfl ?_
    refine zg_iload_n (x := p2) dX0_mark_12 rfl ?_
    refine zg_bipush (v := 120) dX0_mark_13 rfl ?_
    refine zg_imul dX0_mark_15 ?_
    refine zg_iload_n (x := p1) dX0_mark_16 rfl ?_
    refine zg_iadd dX0_mark_17 ?_
    refine zg_iload_n (x := bI p3) dX0_mark_18 rfl ?_
    refine zg_zast (v := bI p3) dX0_mark_19 rfl (z_ix120 (by simp only [q_isFile, q_isBlock, q_isBlockOfFile, q_isMirror, q_isSideOfMirror, q_isCell, q_isPlaceNumber, q_isCellOnSide, q_isPointer, q_isBlockPointer, vp_in_iff, Int32.lt_iff_toInt_lt, Int32.le_iff_toInt_le, Int32.reduceToInt] at c5 ⊢; omega) (by simp only [q_isFile, q_isBlock, q_isBlockOfFile, q_isMirror, q_isSideOfMirror, q_isCell, q_isPlaceNumber, q_isCellOnSide, q_isPointer, q_isBlockPointer, vp_in_iff, Int32.lt_iff_toInt_lt, Int32.le_iff_toInt_le, Int32.reduceToInt] at c5 ⊢; omega)) (bI_vp _) ?_
    exact zg_vret dX0_mark_20 rfl ⟨by decide, by decide⟩ rfl
  · refine zg_st (pc' := 20) (L' := [some (.inr 1), some (.inl p1), some (.inl p2), some (.inl (bI p3))]) (S' := []) (M' := M) rfl rfl rfl rfl ?_
    exact zg_vret dX0_mark_20 rfl ⟨by decide, by decide⟩ rfl
theorem dX0_heal_0 : decode cX0_heal 0 = .ok (.aload_n 0, 1) := by decide +kernel
theorem dX0_heal_1 : decode cX0_heal 1 = .ok (.iload_n 1, 1) := by decide +kernel
theorem dX0_heal_2 : decode cX0_heal 2 = .ok (.iload_n 2, 1) := by decide +kernel
theorem dX0_heal_3 : decode cX0_heal 3 = .ok (.invokevirtual 47, 3) := by decide +kernel
theorem dX0_heal_6 : decode cX0_heal 6 = .ok (.ifCond .eq 15, 3) := by decide +kernel
theorem dX0_heal_9 : decode cX0_heal 9 = .ok (.aload_n 0, 1) := by decide +kernel
theorem dX0_heal_10 : decode cX0_heal 10 = .ok (.iload_n 1, 1) := by decide +kernel
theorem dX0_heal_11 : decode cX0_heal 11 = .ok (.invokestatic 43, 3) := by decide +kernel
theorem dX0_heal_14 : decode cX0_heal 14 = .ok (.iload_n 2, 1) := by decide +kernel
theorem dX0_heal_15 : decode cX0_heal 15 = .ok (.invokevirtual 50, 3) := by decide +kernel
theorem dX0_heal_18 : decode cX0_heal 18 = .ok (.ifCond .ne 5, 3) := by decide +kernel
theorem dX0_heal_21 : decode cX0_heal 21 = .ok (.iconst 0, 1) := by decide +kernel
theorem dX0_heal_22 : decode cX0_heal 22 = .ok (.ireturn, 1) := by decide +kernel
theorem dX0_heal_23 : decode cX0_heal 23 = .ok (.aload_n 0, 1) := by decide +kernel
theorem dX0_heal_24 : decode cX0_heal 24 = .ok (.iload_n 1, 1) := by decide +kernel
theorem dX0_heal_25 : decode cX0_heal 25 = .ok (.iload_n 2, 1) := by decide +kernel
theorem dX0_heal_26 : decode cX0_heal 26 = .ok (.iconst 0, 1) := by decide +kernel
theorem dX0_heal_27 : decode cX0_heal 27 = .ok (.invokevirtual 53, 3) := by decide +kernel
theorem dX0_heal_30 : decode cX0_heal 30 = .ok (.iconst 1, 1) := by decide +kernel
theorem dX0_heal_31 : decode cX0_heal 31 = .ok (.ireturn, 1) := by decide +kernel
def f_X0_heal (p1 : Int32) (p2 : Int32) (M : Mem) : (Int32 × Mem) :=
  if (f_X0_hasSpoilt p1 p2 M) then if (f_X0_hasOnline (f_X4_mirrorOf p1) p2 M) then zlet (f_X0_mark p1 p2 false M) (fun N1 =>
      (1, N1))
    else (0, M)
  else (0, M)
set_option maxRecDepth 100000 in
set_option maxHeartbeats 4000000 in
theorem k_X0_heal (q : ZQ) (p1 : Int32) (p2 : Int32) (M : Mem) : Zc (zgX q) mX0_heal 0 0 [.inr 1, .inl p1, .inl p2] M (wIM (f_X0_heal p1 p2 M)) := by
  refine Zc.of (by decide) zi_X0_heal.1 (Nat.le_of_ble_eq_true rfl) rfl ?_
  show Zg _ _ _ _ _ _ (zlet (f_X0_heal p1 p2 M) wIM) _ _ _ _
  unfold f_X0_heal
  refine zg_aload_n (x := 1) dX0_heal_0 rfl ?_
  refine zg_iload_n (x := p1) dX0_heal_1 rfl ?_
  refine zg_iload_n (x := p2) dX0_heal_2 rfl ?_
  refine zg_cV1 (As := [.inl p1, .inl p2]) (S := []) (v := bI ((f_X0_hasSpoilt p1 p2 M))) dX0_heal_3 zk_X0_47 (k_X0_hasSpoilt q p1 p2 M) rfl rfl ⟨by decide, by decide⟩ ⟨by decide, by decide⟩ rfl (Nat.le_of_ble_eq_true rfl) ?_
  refine zg_st (pc' := 6) (L' := [some (.inr 1), some (.inl p1), some (.inl p2)]) (S' := [.inl (bI ((f_X0_hasSpoilt p1 p2 M)))]) (M' := M) rfl rfl rfl rfl ?_
  refine zg_ifbe (tgt := 21) dX0_heal_6 rfl (fun c6 => ?_) (fun c6 => ?_)
  · refine zg_st (pc' := 9) (L' := [some (.inr 1), some (.inl p1), some (.inl p2)]) (S' := []) (M' := M) rfl rfl rfl rfl ?_
    refine zg_aload_n (x := 1) dX0_heal_9 rfl ?_
    refine zg_iload_n (x := p1) dX0_heal_10 rfl ?_
    refine zg_cN1 (As := [.inl p1]) (S := [.inr 1]) (v := (f_X4_mirrorOf p1)) dX0_heal_11 zk_X0_43 (k_X4_mirrorOf q p1 M) rfl ⟨by decide, by decide⟩ ⟨by decide, by decide⟩ rfl (Nat.le_of_ble_eq_true rfl) ?_
    refine zg_st (pc' := 14) (L' := [some (.inr 1), some (.inl p1), some (.inl p2)]) (S' := [.inl (f_X4_mirrorOf p1), .inr 1]) (M' := M) rfl rfl rfl rfl ?_
    refine zg_iload_n (x := p2) dX0_heal_14 rfl ?_
    refine zg_cV1 (As := [.inl (f_X4_mirrorOf p1), .inl p2]) (S := []) (v := bI ((f_X0_hasOnline (f_X4_mirrorOf p1) p2 M))) dX0_heal_15 zk_X0_50 (k_X0_hasOnline q (f_X4_mirrorOf p1) p2 M) rfl rfl ⟨by decide, by decide⟩ ⟨by decide, by decide⟩ rfl (Nat.le_of_ble_eq_true rfl) ?_
    refine zg_st (pc' := 18) (L' := [some (.inr 1), some (.inl p1), some (.inl p2)]) (S' := [.inl (bI ((f_X0_hasOnline (f_X4_mirrorOf p1) p2 M)))]) (M' := M) rfl rfl rfl rfl ?_
    refine zg_ifbn (tgt := 23) dX0_heal_18 rfl (fun c18 => ?_) (fun c18 => ?_)
    · refine zg_st (pc' := 23) (L' := [some (.inr 1), some (.inl p1), some (.inl p2)]) (S' := []) (M' := M) rfl rfl rfl rfl ?_
      refine zg_aload_n (x := 1) dX0_heal_23 rfl ?_
      refine zg_iload_n (x := p1) dX0_heal_24 rfl ?_
      refine zg_iload_n (x := p2) dX0_heal_25 rfl ?_
      refine zg_iconst (v := 0) dX0_heal_26 rfl ?_
      refine zg_cVV (As := [.inl p1, .inl p2, .inl 0]) (S := []) dX0_heal_27 zk_X0_53 (k_X0_mark q p1 p2 false M) rfl rfl ⟨by decide, by decide⟩ ⟨by decide, by decide⟩ rfl (Nat.le_of_ble_eq_true rfl) (fun N1 e_N1 => ?_)
      try dsimp only
      refine zg_st (pc' := 30) (L' := [some (.inr 1), some (.inl p1), some (.inl p2)]) (S' := []) (M' := N1) rfl rfl rfl rfl ?_
      refine zg_iconst (v := 1) dX0_heal_30 rfl ?_
      exact zg_iret dX0_heal_31 rfl rfl ⟨by decide, by decide⟩ rfl
    · refine zg_st (pc' := 21) (L' := [some (.inr 1), some (.inl p1), some (.inl p2)]) (S' := []) (M' := M) rfl rfl rfl rfl ?_
      refine zg_iconst (v := 0) dX0_heal_21 rfl ?_
      exact zg_iret dX0_heal_22 rfl rfl ⟨by decide, by decide⟩ rfl
  · refine zg_st (pc' := 21) (L' := [some (.inr 1), some (.inl p1), some (.inl p2)]) (S' := []) (M' := M) rfl rfl rfl rfl ?_
    refine zg_iconst (v := 0) dX0_heal_21 rfl ?_
    exact zg_iret dX0_heal_22 rfl rfl ⟨by decide, by decide⟩ rfl
theorem dX2_count_0 : decode cX2_count 0 = .ok (.iconst 0, 1) := by decide +kernel
theorem dX2_count_1 : decode cX2_count 1 = .ok (.istore_n 1, 1) := by decide +kernel
theorem dX2_count_2 : decode cX2_count 2 = .ok (.iconst 0, 1) := by decide +kernel
theorem dX2_count_3 : decode cX2_count 3 = .ok (.istore_n 2, 1) := by decide +kernel
theorem dX2_count_4 : decode cX2_count 4 = .ok (.iload_n 2, 1) := by decide +kernel
theorem dX2_count_5 : decode cX2_count 5 = .ok (.bipush 48, 2) := by decide +kernel
theorem dX2_count_7 : decode cX2_count 7 = .ok (.if_icmp .ge 20, 3) := by decide +kernel
theorem dX2_count_10 : decode cX2_count 10 = .ok (.aload_n 0, 1) := by decide +kernel
theorem dX2_count_11 : decode cX2_count 11 = .ok (.iload_n 2, 1) := by decide +kernel
theorem dX2_count_12 : decode cX2_count 12 = .ok (.invokevirtual 33, 3) := by decide +kernel
theorem dX2_count_15 : decode cX2_count 15 = .ok (.ifCond .eq 6, 3) := by decide +kernel
theorem dX2_count_18 : decode cX2_count 18 = .ok (.iinc 1 1, 3) := by decide +kernel
theorem dX2_count_21 : decode cX2_count 21 = .ok (.iinc 2 1, 3) := by decide +kernel
theorem dX2_count_24 : decode cX2_count 24 = .ok (.goto (-20), 3) := by decide +kernel
theorem dX2_count_27 : decode cX2_count 27 = .ok (.iload_n 1, 1) := by decide +kernel
theorem dX2_count_28 : decode cX2_count 28 = .ok (.ireturn, 1) := by decide +kernel
def b_X2_count_4 (M : Mem) (rec : Int32 → Int32 → Int32 × Int32) (v1 : Int32) (v2 : Int32) : Int32 × Int32 :=
  if 48 ≤ v2 then (v1, v2)
  else if (f_X2_holds v2 M) then rec (v1 + 1) (v2 + 1)
  else rec v1 (v2 + 1)
def l_X2_count_4 (M : Mem) : Nat → Int32 → Int32 → Int32 × Int32
  | 0, v1, v2 => (v1, v2)
  | n + 1, v1, v2 => b_X2_count_4 M (l_X2_count_4 M n) v1 v2
set_option maxRecDepth 100000 in
set_option maxHeartbeats 4000000 in
theorem kl_X2_count_4 (q : ZQ) (M : Mem) {K : Int32 × Int32 → ZR} (hx : ∀ e : Int32 × Int32, Zg (zgX q) mX2_count 0 0 0 0 (K e) 27 [some (.inr 3), some (.inl e.1), some (.inl e.2)] [] M) :
    ∀ (n : Nat) (v1 : Int32) (v2 : Int32), ((48 : Int32).toInt - (v2 : Int32).toInt).toNat < n → Zg (zgX q) mX2_count 0 0 0 0 (zlet (l_X2_count_4 M n v1 v2) K) 4 [some (.inr 3), some (.inl v1), some (.inl v2)] [] M := by
  intro n
  induction n with
  | zero => intro v1 v2 hm; exact absurd hm (Nat.not_lt_zero _)
  | succ n ih =>
    intro v1 v2 hm
    show Zg _ _ _ _ _ _ (zlet (b_X2_count_4 M (l_X2_count_4 M n) v1 v2) K) _ _ _ _
    unfold b_X2_count_4
    refine zg_iload_n (x := v2) dX2_count_4 rfl ?_
    refine zg_bipush (v := 48) dX2_count_5 rfl ?_
    refine zg_icmpz (tgt := 27) dX2_count_7 rfl rfl (fun c7 => ?_) (fun c7 => ?_)
    · refine zg_st (pc' := 27) (L' := [some (.inr 3), some (.inl v1), some (.inl v2)]) (S' := []) (M' := M) rfl rfl rfl rfl ?_
      refine zg_drop (L' := [some (.inr 3), some (.inl v1), some (.inl v2)]) ⟨rfl, rfl, rfl, trivial⟩ ?_
      exact hx (v1, v2)
    · refine zg_st (pc' := 10) (L' := [some (.inr 3), some (.inl v1), some (.inl v2)]) (S' := []) (M' := M) rfl rfl rfl rfl ?_
      refine zg_aload_n (x := 3) dX2_count_10 rfl ?_
      refine zg_iload_n (x := v2) dX2_count_11 rfl ?_
      refine zg_cV1 (As := [.inl v2]) (S := []) (v := bI ((f_X2_holds v2 M))) dX2_count_12 zk_X2_33 (k_X2_holds q v2 M) rfl rfl ⟨by decide, by decide⟩ ⟨by decide, by decide⟩ rfl (Nat.le_of_ble_eq_true rfl) ?_
      refine zg_st (pc' := 15) (L' := [some (.inr 3), some (.inl v1), some (.inl v2)]) (S' := [.inl (bI ((f_X2_holds v2 M)))]) (M' := M) rfl rfl rfl rfl ?_
      refine zg_ifbe (tgt := 21) dX2_count_15 rfl (fun c15 => ?_) (fun c15 => ?_)
      · refine zg_st (pc' := 18) (L' := [some (.inr 3), some (.inl v1), some (.inl v2)]) (S' := []) (M' := M) rfl rfl rfl rfl ?_
        refine zg_iinc (v := (v1 + 1)) dX2_count_18 rfl (by decide) rfl ?_
        refine zg_st (pc' := 21) (L' := [some (.inr 3), some (.inl (v1 + 1)), some (.inl v2)]) (S' := []) (M' := M) rfl rfl rfl rfl ?_
        refine zg_iinc (v := (v2 + 1)) dX2_count_21 rfl (by decide) rfl ?_
        refine zg_st (pc' := 24) (L' := [some (.inr 3), some (.inl (v1 + 1)), some (.inl (v2 + 1))]) (S' := []) (M' := M) rfl rfl rfl rfl ?_
        refine zg_goto (tgt := 4) dX2_count_24 rfl ?_
        refine zg_st (pc' := 4) (L' := [some (.inr 3), some (.inl (v1 + 1)), some (.inl (v2 + 1))]) (S' := []) (M' := M) rfl rfl rfl rfl ?_
        refine zg_drop (L' := [some (.inr 3), some (.inl (v1 + 1)), some (.inl (v2 + 1))]) ⟨rfl, rfl, rfl, trivial⟩ ?_
        exact ih (v1 + 1) (v2 + 1) (z_up c7 hm)
      · refine zg_st (pc' := 21) (L' := [some (.inr 3), some (.inl v1), some (.inl v2)]) (S' := []) (M' := M) rfl rfl rfl rfl ?_
        refine zg_iinc (v := (v2 + 1)) dX2_count_21 rfl (by decide) rfl ?_
        refine zg_st (pc' := 24) (L' := [some (.inr 3), some (.inl v1), some (.inl (v2 + 1))]) (S' := []) (M' := M) rfl rfl rfl rfl ?_
        refine zg_goto (tgt := 4) dX2_count_24 rfl ?_
        refine zg_st (pc' := 4) (L' := [some (.inr 3), some (.inl v1), some (.inl (v2 + 1))]) (S' := []) (M' := M) rfl rfl rfl rfl ?_
        refine zg_drop (L' := [some (.inr 3), some (.inl v1), some (.inl (v2 + 1))]) ⟨rfl, rfl, rfl, trivial⟩ ?_
        exact ih v1 (v2 + 1) (z_up c7 hm)
def f_X2_count (M : Mem) : Int32 :=
  zlet (l_X2_count_4 M 49 0 0) (fun s1 =>
  s1.1)
set_option maxRecDepth 100000 in
set_option maxHeartbeats 4000000 in
theorem k_X2_count (q : ZQ) (M : Mem) : Zc (zgX q) mX2_count 0 0 [.inr 3] M (wI M (f_X2_count M)) := by
  refine Zc.of (by decide) zi_X2_count.1 (Nat.le_of_ble_eq_true rfl) rfl ?_
  show Zg _ _ _ _ _ _ (zlet (f_X2_count M) (wI M)) _ _ _ _
  unfold f_X2_count
  refine zg_iconst (v := 0) dX2_count_0 rfl ?_
  refine zg_istore_n dX2_count_1 (by decide) ?_
  refine zg_st (pc' := 2) (L' := [some (.inr 3), some (.inl 0), none]) (S' := []) (M' := M) rfl rfl rfl rfl ?_
  refine zg_iconst (v := 0) dX2_count_2 rfl ?_
  refine zg_istore_n dX2_count_3 (by decide) ?_
  refine zg_st (pc' := 4) (L' := [some (.inr 3), some (.inl 0), some (.inl 0)]) (S' := []) (M' := M) rfl rfl rfl rfl ?_
  refine zg_asc ?_
  refine zg_drop (L' := [some (.inr 3), some (.inl 0), some (.inl 0)]) ⟨rfl, rfl, rfl, trivial⟩ ?_
  refine kl_X2_count_4 q M (fun s1 => ?_) 49 0 0 (by decide)
  try dsimp only [Sum.elim_inr]
  refine zg_st (pc' := 27) (L' := [some (.inr 3), some (.inl s1.1), some (.inl s1.2)]) (S' := []) (M' := M) rfl rfl rfl rfl ?_
  refine zg_iload_n (x := s1.1) dX2_count_27 rfl ?_
  exact zg_iret dX2_count_28 rfl rfl ⟨by decide, by decide⟩ rfl
def b_J7_fill_53178_15_5 (x1 : Int32) (x3 : Int32) (rec : Int32 → Mem → Int32 × Mem) (v2 : Int32) (N : Mem) : Int32 × Mem :=
  if x3 ≤ v2 then (v2, N)
  else rec (v2 + 1) (mup N 15 v2.toNatClampNeg x1)
def l_J7_fill_53178_15_5 (x1 : Int32) (x3 : Int32) : Nat → Int32 → Mem → Int32 × Mem
  | 0, v2, N => (v2, N)
  | n + 1, v2, N => b_J7_fill_53178_15_5 x1 x3 (l_J7_fill_53178_15_5 x1 x3 n) v2 N
set_option maxRecDepth 100000 in
set_option maxHeartbeats 4000000 in
theorem kl_J7_fill_53178_15_5 (q : ZQ) (x1 : Int32) (x3 : Int32) (hx3 : x3.toInt = 48) {K : Int32 × Mem → ZR} (hx : ∀ e : Int32 × Mem, (0 : Int) ≤ e.1.toInt → Zg (zgX q) mJ7_fill_53178 0 0 0 0 (K e) 20 [some (.inr 15), some (.inl x1), some (.inl e.1), some (.inl x3)] [] e.2) :
    ∀ (n : Nat) (v2 : Int32) (N : Mem), (0 : Int) ≤ v2.toInt → ((x3 : Int32).toInt - (v2 : Int32).toInt).toNat < n → Zg (zgX q) mJ7_fill_53178 0 0 0 0 (zlet (l_J7_fill_53178_15_5 x1 x3 n v2 N) K) 5 [some (.inr 15), some (.inl x1), some (.inl v2), some (.inl x3)] [] N := by
  intro n
  induction n with
  | zero => intro v2 N hI hm; exact absurd hm (Nat.not_lt_zero _)
  | succ n ih =>
    intro v2 N hI hm
    show Zg _ _ _ _ _ _ (zlet (b_J7_fill_53178_15_5 x1 x3 (l_J7_fill_53178_15_5 x1 x3 n) v2 N) K) _ _ _ _
    unfold b_J7_fill_53178_15_5
    refine zg_iload_n (x := v2) dJ7_fill_53178_5 rfl ?_
    refine zg_iload_n (x := x3) dJ7_fill_53178_6 rfl ?_
    refine zg_icmpz (tgt := 20) dJ7_fill_53178_7 rfl rfl (fun c7 => ?_) (fun c7 => ?_)
    · refine zg_st (pc' := 20) (L' := [some (.inr 15), some (.inl x1), some (.inl v2), some (.inl x3)]) (S' := []) (M' := N) rfl rfl rfl rfl ?_
      refine zg_drop (L' := [some (.inr 15), some (.inl x1), some (.inl v2), some (.inl x3)]) ⟨rfl, rfl, rfl, rfl, trivial⟩ ?_
      exact hx (v2, N) hI
    · refine zg_st (pc' := 10) (L' := [some (.inr 15), some (.inl x1), some (.inl v2), some (.inl x3)]) (S' := []) (M' := N) rfl rfl rfl rfl ?_
      refine zg_aload_n (x := 15) dJ7_fill_53178_10 rfl ?_
      refine zg_iload_n (x := v2) dJ7_fill_53178_11 rfl ?_
      refine zg_iload_n (x := x1) dJ7_fill_53178_12 rfl ?_
      refine zg_iast dJ7_fill_53178_13 rfl (by simp only [q_isFile, q_isBlock, q_isBlockOfFile, q_isMirror, q_isSideOfMirror, q_isCell, q_isPlaceNumber, q_isCellOnSide, q_isPointer, q_isBlockPointer, vp_in_iff, Int32.lt_iff_toInt_lt, Int32.le_iff_toInt_le, Int32.reduceToInt] at c7 hI hx3 ⊢; omega) ?_
      refine zg_iinc (v := (v2 + 1)) dJ7_fill_53178_14 rfl (by decide) rfl ?_
      refine zg_st (pc' := 17) (L' := [some (.inr 15), some (.inl x1), some (.inl (v2 + 1)), some (.inl x3)]) (S' := []) (M' := (mup N 15 v2.toNatClampNeg x1)) rfl rfl rfl rfl ?_
      refine zg_goto (tgt := 5) dJ7_fill_53178_17 rfl ?_
      refine zg_st (pc' := 5) (L' := [some (.inr 15), some (.inl x1), some (.inl (v2 + 1)), some (.inl x3)]) (S' := []) (M' := (mup N 15 v2.toNatClampNeg x1)) rfl rfl rfl rfl ?_
      refine zg_drop (L' := [some (.inr 15), some (.inl x1), some (.inl (v2 + 1)), some (.inl x3)]) ⟨rfl, rfl, rfl, rfl, trivial⟩ ?_
      exact ih (v2 + 1) (mup N 15 v2.toNatClampNeg x1) (z_ge0 c7 hI) (z_up c7 hm)
def f_J7_fill_53178_15 (p1 : Int32) (M : Mem) : Mem :=
  zlet (l_J7_fill_53178_15_5 p1 48 49 0 M) (fun s1 =>
  s1.2)
set_option maxRecDepth 100000 in
set_option maxHeartbeats 4000000 in
theorem k_J7_fill_53178_15 (q : ZQ) (p1 : Int32) (M : Mem) : Zc (zgX q) mJ7_fill_53178 0 0 [.inr 15, .inl p1] M (wV (f_J7_fill_53178_15 p1 M)) := by
  refine Zc.of (by decide) zi_J7_fill_53178.1 (Nat.le_of_ble_eq_true rfl) rfl ?_
  show Zg _ _ _ _ _ _ (zlet (f_J7_fill_53178_15 p1 M) wV) _ _ _ _
  unfold f_J7_fill_53178_15
  refine zg_iconst (v := 0) dJ7_fill_53178_0 rfl ?_
  refine zg_istore_n dJ7_fill_53178_1 (by decide) ?_
  refine zg_st (pc' := 2) (L' := [some (.inr 15), some (.inl p1), some (.inl 0), none]) (S' := []) (M' := M) rfl rfl rfl rfl ?_
  refine zg_aload_n (x := 15) dJ7_fill_53178_2 rfl ?_
  refine zg_alen (v := 48) dJ7_fill_53178_3 rfl rfl ?_
  refine zg_istore_n dJ7_fill_53178_4 (by decide) ?_
  refine zg_st (pc' := 5) (L' := [some (.inr 15), some (.inl p1), some (.inl 0), some (.inl 48)]) (S' := []) (M' := M) rfl rfl rfl rfl ?_
  refine zg_asc ?_
  refine zg_drop (L' := [some (.inr 15), some (.inl p1), some (.inl 0), some (.inl 48)]) ⟨rfl, rfl, rfl, rfl, trivial⟩ ?_
  refine kl_J7_fill_53178_15_5 q p1 48  (by decide) (fun s1 hI_s1 => ?_) 49 0 M (by decide) (by decide)
  try dsimp only [Sum.elim_inr]
  refine zg_st (pc' := 20) (L' := [some (.inr 15), some (.inl p1), some (.inl s1.1), some (.inl 48)]) (S' := []) (M' := s1.2) rfl rfl rfl rfl ?_
  exact zg_vret dJ7_fill_53178_20 rfl ⟨by decide, by decide⟩ rfl
theorem dX2_dropChanges_0 : decode cX2_dropChanges 0 = .ok (.aload_n 0, 1) := by decide +kernel
theorem dX2_dropChanges_1 : decode cX2_dropChanges 1 = .ok (.getfield 9, 3) := by decide +kernel
theorem dX2_dropChanges_4 : decode cX2_dropChanges 4 = .ok (.iconst (-1), 1) := by decide +kernel
theorem dX2_dropChanges_5 : decode cX2_dropChanges 5 = .ok (.invokestatic 15, 3) := by decide +kernel
theorem dX2_dropChanges_8 : decode cX2_dropChanges 8 = .ok (.return_, 1) := by decide +kernel
def f_X2_dropChanges (M : Mem) : Mem :=
  zlet (f_J7_fill_53178_15 (-1) M) (fun N1 =>
  N1)
set_option maxRecDepth 100000 in
set_option maxHeartbeats 4000000 in
theorem k_X2_dropChanges (q : ZQ) (M : Mem) : Zc (zgX q) mX2_dropChanges 0 0 [.inr 3] M (wV (f_X2_dropChanges M)) := by
  refine Zc.of (by decide) zi_X2_dropChanges.1 (Nat.le_of_ble_eq_true rfl) rfl ?_
  show Zg _ _ _ _ _ _ (zlet (f_X2_dropChanges M) wV) _ _ _ _
  unfold f_X2_dropChanges
  refine zg_aload_n (x := 3) dX2_dropChanges_0 rfl ?_
  refine zg_getf (v := .inr 15) dX2_dropChanges_1 zf_X2_9 rfl rfl rfl ?_
  refine zg_iconst (v := (-1)) dX2_dropChanges_4 rfl ?_
  refine zg_cSV (As := [.inr 15, .inl (-1)]) (S := []) dX2_dropChanges_5 zk_X2_15 (k_J7_fill_53178_15 q (-1) M) rfl ⟨by decide, by decide⟩ ⟨by decide, by decide⟩ rfl (Nat.le_of_ble_eq_true rfl) (fun N1 e_N1 => ?_)
  try dsimp only
  refine zg_st (pc' := 8) (L' := [some (.inr 3)]) (S' := []) (M' := N1) rfl rfl rfl rfl ?_
  exact zg_vret dX2_dropChanges_8 rfl ⟨by decide, by decide⟩ rfl
theorem dX2_close_0 : decode cX2_close 0 = .ok (.aload_n 0, 1) := by decide +kernel
theorem dX2_close_1 : decode cX2_close 1 = .ok (.invokevirtual 36, 3) := by decide +kernel
theorem dX2_close_4 : decode cX2_close 4 = .ok (.aload_n 0, 1) := by decide +kernel
theorem dX2_close_5 : decode cX2_close 5 = .ok (.dup, 1) := by decide +kernel
theorem dX2_close_6 : decode cX2_close 6 = .ok (.getfield 21, 3) := by decide +kernel
theorem dX2_close_9 : decode cX2_close 9 = .ok (.iconst 1, 1) := by decide +kernel
theorem dX2_close_10 : decode cX2_close 10 = .ok (.iadd, 1) := by decide +kernel
theorem dX2_close_11 : decode cX2_close 11 = .ok (.putfield 21, 3) := by decide +kernel
theorem dX2_close_14 : decode cX2_close 14 = .ok (.return_, 1) := by decide +kernel
def f_X2_close (M : Mem) : Mem :=
  zlet (f_X2_dropChanges M) (fun N1 =>
  (mup N1 3 1 ((N1 3 1) + 1)))
set_option maxRecDepth 100000 in
set_option maxHeartbeats 4000000 in
theorem k_X2_close (q : ZQ) (M : Mem) : Zc (zgX q) mX2_close 0 0 [.inr 3] M (wV (f_X2_close M)) := by
  refine Zc.of (by decide) zi_X2_close.1 (Nat.le_of_ble_eq_true rfl) rfl ?_
  show Zg _ _ _ _ _ _ (zlet (f_X2_close M) wV) _ _ _ _
  unfold f_X2_close
  refine zg_aload_n (x := 3) dX2_close_0 rfl ?_
  refine zg_cVV (As := []) (S := []) dX2_close_1 zk_X2_36 (k_X2_dropChanges q M) rfl rfl ⟨by decide, by decide⟩ ⟨by decide, by decide⟩ rfl (Nat.le_of_ble_eq_true rfl) (fun N1 e_N1 => ?_)
  try dsimp only
  refine zg_st (pc' := 4) (L' := [some (.inr 3)]) (S' := []) (M' := N1) rfl rfl rfl rfl ?_
  refine zg_aload_n (x := 3) dX2_close_4 rfl ?_
  refine zg_dup dX2_close_5 ?_
  refine zg_getf (v := .inl (N1 3 1)) dX2_close_6 zf_X2_21 rfl rfl rfl ?_
  refine zg_iconst (v := 1) dX2_close_9 rfl ?_
  refine zg_iadd dX2_close_10 ?_
  refine zg_putf dX2_close_11 zp_X2_21 rfl rfl ?_
  exact zg_vret dX2_close_14 rfl ⟨by decide, by decide⟩ rfl
def b_J7_fill_53178_18_5 (x1 : Int32) (x3 : Int32) (rec : Int32 → Mem → Int32 × Mem) (v2 : Int32) (N : Mem) : Int32 × Mem :=
  if x3 ≤ v2 then (v2, N)
  else rec (v2 + 1) (mup N 18 v2.toNatClampNeg x1)
def l_J7_fill_53178_18_5 (x1 : Int32) (x3 : Int32) : Nat → Int32 → Mem → Int32 × Mem
  | 0, v2, N => (v2, N)
  | n + 1, v2, N => b_J7_fill_53178_18_5 x1 x3 (l_J7_fill_53178_18_5 x1 x3 n) v2 N
set_option maxRecDepth 100000 in
set_option maxHeartbeats 4000000 in
theorem kl_J7_fill_53178_18_5 (q : ZQ) (x1 : Int32) (x3 : Int32) (hx3 : x3.toInt = 53) {K : Int32 × Mem → ZR} (hx : ∀ e : Int32 × Mem, (0 : Int) ≤ e.1.toInt → Zg (zgX q) mJ7_fill_53178 0 0 0 0 (K e) 20 [some (.inr 18), some (.inl x1), some (.inl e.1), some (.inl x3)] [] e.2) :
    ∀ (n : Nat) (v2 : Int32) (N : Mem), (0 : Int) ≤ v2.toInt → ((x3 : Int32).toInt - (v2 : Int32).toInt).toNat < n → Zg (zgX q) mJ7_fill_53178 0 0 0 0 (zlet (l_J7_fill_53178_18_5 x1 x3 n v2 N) K) 5 [some (.inr 18), some (.inl x1), some (.inl v2), some (.inl x3)] [] N := by
  intro n
  induction n with
  | zero => intro v2 N hI hm; exact absurd hm (Nat.not_lt_zero _)
  | succ n ih =>
    intro v2 N hI hm
    show Zg _ _ _ _ _ _ (zlet (b_J7_fill_53178_18_5 x1 x3 (l_J7_fill_53178_18_5 x1 x3 n) v2 N) K) _ _ _ _
    unfold b_J7_fill_53178_18_5
    refine zg_iload_n (x := v2) dJ7_fill_53178_5 rfl ?_
    refine zg_iload_n (x := x3) dJ7_fill_53178_6 rfl ?_
    refine zg_icmpz (tgt := 20) dJ7_fill_53178_7 rfl rfl (fun c7 => ?_) (fun c7 => ?_)
    · refine zg_st (pc' := 20) (L' := [some (.inr 18), some (.inl x1), some (.inl v2), some (.inl x3)]) (S' := []) (M' := N) rfl rfl rfl rfl ?_
      refine zg_drop (L' := [some (.inr 18), some (.inl x1), some (.inl v2), some (.inl x3)]) ⟨rfl, rfl, rfl, rfl, trivial⟩ ?_
      exact hx (v2, N) hI
    · refine zg_st (pc' := 10) (L' := [some (.inr 18), some (.inl x1), some (.inl v2), some (.inl x3)]) (S' := []) (M' := N) rfl rfl rfl rfl ?_
      refine zg_aload_n (x := 18) dJ7_fill_53178_10 rfl ?_
      refine zg_iload_n (x := v2) dJ7_fill_53178_11 rfl ?_
      refine zg_iload_n (x := x1) dJ7_fill_53178_12 rfl ?_
      refine zg_iast dJ7_fill_53178_13 rfl (by simp only [q_isFile, q_isBlock, q_isBlockOfFile, q_isMirror, q_isSideOfMirror, q_isCell, q_isPlaceNumber, q_isCellOnSide, q_isPointer, q_isBlockPointer, vp_in_iff, Int32.lt_iff_toInt_lt, Int32.le_iff_toInt_le, Int32.reduceToInt] at c7 hI hx3 ⊢; omega) ?_
      refine zg_iinc (v := (v2 + 1)) dJ7_fill_53178_14 rfl (by decide) rfl ?_
      refine zg_st (pc' := 17) (L' := [some (.inr 18), some (.inl x1), some (.inl (v2 + 1)), some (.inl x3)]) (S' := []) (M' := (mup N 18 v2.toNatClampNeg x1)) rfl rfl rfl rfl ?_
      refine zg_goto (tgt := 5) dJ7_fill_53178_17 rfl ?_
      refine zg_st (pc' := 5) (L' := [some (.inr 18), some (.inl x1), some (.inl (v2 + 1)), some (.inl x3)]) (S' := []) (M' := (mup N 18 v2.toNatClampNeg x1)) rfl rfl rfl rfl ?_
      refine zg_drop (L' := [some (.inr 18), some (.inl x1), some (.inl (v2 + 1)), some (.inl x3)]) ⟨rfl, rfl, rfl, rfl, trivial⟩ ?_
      exact ih (v2 + 1) (mup N 18 v2.toNatClampNeg x1) (z_ge0 c7 hI) (z_up c7 hm)
def f_J7_fill_53178_18 (p1 : Int32) (M : Mem) : Mem :=
  zlet (l_J7_fill_53178_18_5 p1 53 54 0 M) (fun s1 =>
  s1.2)
set_option maxRecDepth 100000 in
set_option maxHeartbeats 4000000 in
theorem k_J7_fill_53178_18 (q : ZQ) (p1 : Int32) (M : Mem) : Zc (zgX q) mJ7_fill_53178 0 0 [.inr 18, .inl p1] M (wV (f_J7_fill_53178_18 p1 M)) := by
  refine Zc.of (by decide) zi_J7_fill_53178.1 (Nat.le_of_ble_eq_true rfl) rfl ?_
  show Zg _ _ _ _ _ _ (zlet (f_J7_fill_53178_18 p1 M) wV) _ _ _ _
  unfold f_J7_fill_53178_18
  refine zg_iconst (v := 0) dJ7_fill_53178_0 rfl ?_
  refine zg_istore_n dJ7_fill_53178_1 (by decide) ?_
  refine zg_st (pc' := 2) (L' := [some (.inr 18), some (.inl p1), some (.inl 0), none]) (S' := []) (M' := M) rfl rfl rfl rfl ?_
  refine zg_aload_n (x := 18) dJ7_fill_53178_2 rfl ?_
  refine zg_alen (v := 53) dJ7_fill_53178_3 rfl rfl ?_
  refine zg_istore_n dJ7_fill_53178_4 (by decide) ?_
  refine zg_st (pc' := 5) (L' := [some (.inr 18), some (.inl p1), some (.inl 0), some (.inl 53)]) (S' := []) (M' := M) rfl rfl rfl rfl ?_
  refine zg_asc ?_
  refine zg_drop (L' := [some (.inr 18), some (.inl p1), some (.inl 0), some (.inl 53)]) ⟨rfl, rfl, rfl, rfl, trivial⟩ ?_
  refine kl_J7_fill_53178_18_5 q p1 53  (by decide) (fun s1 hI_s1 => ?_) 54 0 M (by decide) (by decide)
  try dsimp only [Sum.elim_inr]
  refine zg_st (pc' := 20) (L' := [some (.inr 18), some (.inl p1), some (.inl s1.1), some (.inl 53)]) (S' := []) (M' := s1.2) rfl rfl rfl rfl ?_
  exact zg_vret dJ7_fill_53178_20 rfl ⟨by decide, by decide⟩ rfl
def b_J7_fill_53178_19_5 (x1 : Int32) (x3 : Int32) (rec : Int32 → Mem → Int32 × Mem) (v2 : Int32) (N : Mem) : Int32 × Mem :=
  if x3 ≤ v2 then (v2, N)
  else rec (v2 + 1) (mup N 19 v2.toNatClampNeg x1)
def l_J7_fill_53178_19_5 (x1 : Int32) (x3 : Int32) : Nat → Int32 → Mem → Int32 × Mem
  | 0, v2, N => (v2, N)
  | n + 1, v2, N => b_J7_fill_53178_19_5 x1 x3 (l_J7_fill_53178_19_5 x1 x3 n) v2 N
set_option maxRecDepth 100000 in
set_option maxHeartbeats 4000000 in
theorem kl_J7_fill_53178_19_5 (q : ZQ) (x1 : Int32) (x3 : Int32) (hx3 : x3.toInt = 53) {K : Int32 × Mem → ZR} (hx : ∀ e : Int32 × Mem, (0 : Int) ≤ e.1.toInt → Zg (zgX q) mJ7_fill_53178 0 0 0 0 (K e) 20 [some (.inr 19), some (.inl x1), some (.inl e.1), some (.inl x3)] [] e.2) :
    ∀ (n : Nat) (v2 : Int32) (N : Mem), (0 : Int) ≤ v2.toInt → ((x3 : Int32).toInt - (v2 : Int32).toInt).toNat < n → Zg (zgX q) mJ7_fill_53178 0 0 0 0 (zlet (l_J7_fill_53178_19_5 x1 x3 n v2 N) K) 5 [some (.inr 19), some (.inl x1), some (.inl v2), some (.inl x3)] [] N := by
  intro n
  induction n with
  | zero => intro v2 N hI hm; exact absurd hm (Nat.not_lt_zero _)
  | succ n ih =>
    intro v2 N hI hm
    show Zg _ _ _ _ _ _ (zlet (b_J7_fill_53178_19_5 x1 x3 (l_J7_fill_53178_19_5 x1 x3 n) v2 N) K) _ _ _ _
    unfold b_J7_fill_53178_19_5
    refine zg_iload_n (x := v2) dJ7_fill_53178_5 rfl ?_
    refine zg_iload_n (x := x3) dJ7_fill_53178_6 rfl ?_
    refine zg_icmpz (tgt := 20) dJ7_fill_53178_7 rfl rfl (fun c7 => ?_) (fun c7 => ?_)
    · refine zg_st (pc' := 20) (L' := [some (.inr 19), some (.inl x1), some (.inl v2), some (.inl x3)]) (S' := []) (M' := N) rfl rfl rfl rfl ?_
      refine zg_drop (L' := [some (.inr 19), some (.inl x1), some (.inl v2), some (.inl x3)]) ⟨rfl, rfl, rfl, rfl, trivial⟩ ?_
      exact hx (v2, N) hI
    · refine zg_st (pc' := 10) (L' := [some (.inr 19), some (.inl x1), some (.inl v2), some (.inl x3)]) (S' := []) (M' := N) rfl rfl rfl rfl ?_
      refine zg_aload_n (x := 19) dJ7_fill_53178_10 rfl ?_
      refine zg_iload_n (x := v2) dJ7_fill_53178_11 rfl ?_
      refine zg_iload_n (x := x1) dJ7_fill_53178_12 rfl ?_
      refine zg_iast dJ7_fill_53178_13 rfl (by simp only [q_isFile, q_isBlock, q_isBlockOfFile, q_isMirror, q_isSideOfMirror, q_isCell, q_isPlaceNumber, q_isCellOnSide, q_isPointer, q_isBlockPointer, vp_in_iff, Int32.lt_iff_toInt_lt, Int32.le_iff_toInt_le, Int32.reduceToInt] at c7 hI hx3 ⊢; omega) ?_
      refine zg_iinc (v := (v2 + 1)) dJ7_fill_53178_14 rfl (by decide) rfl ?_
      refine zg_st (pc' := 17) (L' := [some (.inr 19), some (.inl x1), some (.inl (v2 + 1)), some (.inl x3)]) (S' := []) (M' := (mup N 19 v2.toNatClampNeg x1)) rfl rfl rfl rfl ?_
      refine zg_goto (tgt := 5) dJ7_fill_53178_17 rfl ?_
      refine zg_st (pc' := 5) (L' := [some (.inr 19), some (.inl x1), some (.inl (v2 + 1)), some (.inl x3)]) (S' := []) (M' := (mup N 19 v2.toNatClampNeg x1)) rfl rfl rfl rfl ?_
      refine zg_drop (L' := [some (.inr 19), some (.inl x1), some (.inl (v2 + 1)), some (.inl x3)]) ⟨rfl, rfl, rfl, rfl, trivial⟩ ?_
      exact ih (v2 + 1) (mup N 19 v2.toNatClampNeg x1) (z_ge0 c7 hI) (z_up c7 hm)
def f_J7_fill_53178_19 (p1 : Int32) (M : Mem) : Mem :=
  zlet (l_J7_fill_53178_19_5 p1 53 54 0 M) (fun s1 =>
  s1.2)
set_option maxRecDepth 100000 in
set_option maxHeartbeats 4000000 in
theorem k_J7_fill_53178_19 (q : ZQ) (p1 : Int32) (M : Mem) : Zc (zgX q) mJ7_fill_53178 0 0 [.inr 19, .inl p1] M (wV (f_J7_fill_53178_19 p1 M)) := by
  refine Zc.of (by decide) zi_J7_fill_53178.1 (Nat.le_of_ble_eq_true rfl) rfl ?_
  show Zg _ _ _ _ _ _ (zlet (f_J7_fill_53178_19 p1 M) wV) _ _ _ _
  unfold f_J7_fill_53178_19
  refine zg_iconst (v := 0) dJ7_fill_53178_0 rfl ?_
  refine zg_istore_n dJ7_fill_53178_1 (by decide) ?_
  refine zg_st (pc' := 2) (L' := [some (.inr 19), some (.inl p1), some (.inl 0), none]) (S' := []) (M' := M) rfl rfl rfl rfl ?_
  refine zg_aload_n (x := 19) dJ7_fill_53178_2 rfl ?_
  refine zg_alen (v := 53) dJ7_fill_53178_3 rfl rfl ?_
  refine zg_istore_n dJ7_fill_53178_4 (by decide) ?_
  refine zg_st (pc' := 5) (L' := [some (.inr 19), some (.inl p1), some (.inl 0), some (.inl 53)]) (S' := []) (M' := M) rfl rfl rfl rfl ?_
  refine zg_asc ?_
  refine zg_drop (L' := [some (.inr 19), some (.inl p1), some (.inl 0), some (.inl 53)]) ⟨rfl, rfl, rfl, rfl, trivial⟩ ?_
  refine kl_J7_fill_53178_19_5 q p1 53  (by decide) (fun s1 hI_s1 => ?_) 54 0 M (by decide) (by decide)
  try dsimp only [Sum.elim_inr]
  refine zg_st (pc' := 20) (L' := [some (.inr 19), some (.inl p1), some (.inl s1.1), some (.inl 53)]) (S' := []) (M' := s1.2) rfl rfl rfl rfl ?_
  exact zg_vret dJ7_fill_53178_20 rfl ⟨by decide, by decide⟩ rfl
def b_J7_fill_53178_17_5 (x1 : Int32) (x3 : Int32) (rec : Int32 → Mem → Int32 × Mem) (v2 : Int32) (N : Mem) : Int32 × Mem :=
  if x3 ≤ v2 then (v2, N)
  else rec (v2 + 1) (mup N 17 v2.toNatClampNeg x1)
def l_J7_fill_53178_17_5 (x1 : Int32) (x3 : Int32) : Nat → Int32 → Mem → Int32 × Mem
  | 0, v2, N => (v2, N)
  | n + 1, v2, N => b_J7_fill_53178_17_5 x1 x3 (l_J7_fill_53178_17_5 x1 x3 n) v2 N
set_option maxRecDepth 100000 in
set_option maxHeartbeats 4000000 in
theorem kl_J7_fill_53178_17_5 (q : ZQ) (x1 : Int32) (x3 : Int32) (hx3 : x3.toInt = 3) {K : Int32 × Mem → ZR} (hx : ∀ e : Int32 × Mem, (0 : Int) ≤ e.1.toInt → Zg (zgX q) mJ7_fill_53178 0 0 0 0 (K e) 20 [some (.inr 17), some (.inl x1), some (.inl e.1), some (.inl x3)] [] e.2) :
    ∀ (n : Nat) (v2 : Int32) (N : Mem), (0 : Int) ≤ v2.toInt → ((x3 : Int32).toInt - (v2 : Int32).toInt).toNat < n → Zg (zgX q) mJ7_fill_53178 0 0 0 0 (zlet (l_J7_fill_53178_17_5 x1 x3 n v2 N) K) 5 [some (.inr 17), some (.inl x1), some (.inl v2), some (.inl x3)] [] N := by
  intro n
  induction n with
  | zero => intro v2 N hI hm; exact absurd hm (Nat.not_lt_zero _)
  | succ n ih =>
    intro v2 N hI hm
    show Zg _ _ _ _ _ _ (zlet (b_J7_fill_53178_17_5 x1 x3 (l_J7_fill_53178_17_5 x1 x3 n) v2 N) K) _ _ _ _
    unfold b_J7_fill_53178_17_5
    refine zg_iload_n (x := v2) dJ7_fill_53178_5 rfl ?_
    refine zg_iload_n (x := x3) dJ7_fill_53178_6 rfl ?_
    refine zg_icmpz (tgt := 20) dJ7_fill_53178_7 rfl rfl (fun c7 => ?_) (fun c7 => ?_)
    · refine zg_st (pc' := 20) (L' := [some (.inr 17), some (.inl x1), some (.inl v2), some (.inl x3)]) (S' := []) (M' := N) rfl rfl rfl rfl ?_
      refine zg_drop (L' := [some (.inr 17), some (.inl x1), some (.inl v2), some (.inl x3)]) ⟨rfl, rfl, rfl, rfl, trivial⟩ ?_
      exact hx (v2, N) hI
    · refine zg_st (pc' := 10) (L' := [some (.inr 17), some (.inl x1), some (.inl v2), some (.inl x3)]) (S' := []) (M' := N) rfl rfl rfl rfl ?_
      refine zg_aload_n (x := 17) dJ7_fill_53178_10 rfl ?_
      refine zg_iload_n (x := v2) dJ7_fill_53178_11 rfl ?_
      refine zg_iload_n (x := x1) dJ7_fill_53178_12 rfl ?_
      refine zg_iast dJ7_fill_53178_13 rfl (by simp only [q_isFile, q_isBlock, q_isBlockOfFile, q_isMirror, q_isSideOfMirror, q_isCell, q_isPlaceNumber, q_isCellOnSide, q_isPointer, q_isBlockPointer, vp_in_iff, Int32.lt_iff_toInt_lt, Int32.le_iff_toInt_le, Int32.reduceToInt] at c7 hI hx3 ⊢; omega) ?_
      refine zg_iinc (v := (v2 + 1)) dJ7_fill_53178_14 rfl (by decide) rfl ?_
      refine zg_st (pc' := 17) (L' := [some (.inr 17), some (.inl x1), some (.inl (v2 + 1)), some (.inl x3)]) (S' := []) (M' := (mup N 17 v2.toNatClampNeg x1)) rfl rfl rfl rfl ?_
      refine zg_goto (tgt := 5) dJ7_fill_53178_17 rfl ?_
      refine zg_st (pc' := 5) (L' := [some (.inr 17), some (.inl x1), some (.inl (v2 + 1)), some (.inl x3)]) (S' := []) (M' := (mup N 17 v2.toNatClampNeg x1)) rfl rfl rfl rfl ?_
      refine zg_drop (L' := [some (.inr 17), some (.inl x1), some (.inl (v2 + 1)), some (.inl x3)]) ⟨rfl, rfl, rfl, rfl, trivial⟩ ?_
      exact ih (v2 + 1) (mup N 17 v2.toNatClampNeg x1) (z_ge0 c7 hI) (z_up c7 hm)
def f_J7_fill_53178_17 (p1 : Int32) (M : Mem) : Mem :=
  zlet (l_J7_fill_53178_17_5 p1 3 4 0 M) (fun s1 =>
  s1.2)
set_option maxRecDepth 100000 in
set_option maxHeartbeats 4000000 in
theorem k_J7_fill_53178_17 (q : ZQ) (p1 : Int32) (M : Mem) : Zc (zgX q) mJ7_fill_53178 0 0 [.inr 17, .inl p1] M (wV (f_J7_fill_53178_17 p1 M)) := by
  refine Zc.of (by decide) zi_J7_fill_53178.1 (Nat.le_of_ble_eq_true rfl) rfl ?_
  show Zg _ _ _ _ _ _ (zlet (f_J7_fill_53178_17 p1 M) wV) _ _ _ _
  unfold f_J7_fill_53178_17
  refine zg_iconst (v := 0) dJ7_fill_53178_0 rfl ?_
  refine zg_istore_n dJ7_fill_53178_1 (by decide) ?_
  refine zg_st (pc' := 2) (L' := [some (.inr 17), some (.inl p1), some (.inl 0), none]) (S' := []) (M' := M) rfl rfl rfl rfl ?_
  refine zg_aload_n (x := 17) dJ7_fill_53178_2 rfl ?_
  refine zg_alen (v := 3) dJ7_fill_53178_3 rfl rfl ?_
  refine zg_istore_n dJ7_fill_53178_4 (by decide) ?_
  refine zg_st (pc' := 5) (L' := [some (.inr 17), some (.inl p1), some (.inl 0), some (.inl 3)]) (S' := []) (M' := M) rfl rfl rfl rfl ?_
  refine zg_asc ?_
  refine zg_drop (L' := [some (.inr 17), some (.inl p1), some (.inl 0), some (.inl 3)]) ⟨rfl, rfl, rfl, rfl, trivial⟩ ?_
  refine kl_J7_fill_53178_17_5 q p1 3  (by decide) (fun s1 hI_s1 => ?_) 4 0 M (by decide) (by decide)
  try dsimp only [Sum.elim_inr]
  refine zg_st (pc' := 20) (L' := [some (.inr 17), some (.inl p1), some (.inl s1.1), some (.inl 3)]) (S' := []) (M' := s1.2) rfl rfl rfl rfl ?_
  exact zg_vret dJ7_fill_53178_20 rfl ⟨by decide, by decide⟩ rfl
theorem dX0_isUsed_0 : decode cX0_isUsed 0 = .ok (.iload_n 1, 1) := by decide +kernel
theorem dX0_isUsed_1 : decode cX0_isUsed 1 = .ok (.invokestatic 29, 3) := by decide +kernel
theorem dX0_isUsed_4 : decode cX0_isUsed 4 = .ok (.ifCond .eq 16, 3) := by decide +kernel
theorem dX0_isUsed_7 : decode cX0_isUsed 7 = .ok (.aload_n 0, 1) := by decide +kernel
theorem dX0_isUsed_8 : decode cX0_isUsed 8 = .ok (.getfield 9, 3) := by decide +kernel
theorem dX0_isUsed_11 : decode cX0_isUsed 11 = .ok (.iload_n 1, 1) := by decide +kernel
theorem dX0_isUsed_12 : decode cX0_isUsed 12 = .ok (.baload, 1) := by decide +kernel
theorem dX0_isUsed_13 : decode cX0_isUsed 13 = .ok (.ifCond .eq 7, 3) := by decide +kernel
theorem dX0_isUsed_16 : decode cX0_isUsed 16 = .ok (.iconst 1, 1) := by decide +kernel
theorem dX0_isUsed_17 : decode cX0_isUsed 17 = .ok (.goto 4, 3) := by decide +kernel
theorem dX0_isUsed_20 : decode cX0_isUsed 20 = .ok (.iconst 0, 1) := by decide +kernel
theorem dX0_isUsed_21 : decode cX0_isUsed 21 = .ok (.ireturn, 1) := by decide +kernel
def f_X0_isUsed (p1 : Int32) (M : Mem) : Bool :=
  if (f_X4_isPlaceNumber p1) then if (M 6 p1.toNatClampNeg) = 0 then false
    else true
  else false
set_option maxRecDepth 100000 in
set_option maxHeartbeats 4000000 in
theorem k_X0_isUsed (q : ZQ) (p1 : Int32) (M : Mem) : Zc (zgX q) mX0_isUsed 0 0 [.inr 1, .inl p1] M (wB M (f_X0_isUsed p1 M)) := by
  refine Zc.of (by decide) zi_X0_isUsed.1 (Nat.le_of_ble_eq_true rfl) rfl ?_
  show Zg _ _ _ _ _ _ (zlet (f_X0_isUsed p1 M) (wB M)) _ _ _ _
  unfold f_X0_isUsed
  refine zg_iload_n (x := p1) dX0_isUsed_0 rfl ?_
  refine zg_cN1 (As := [.inl p1]) (S := []) (v := bI ((f_X4_isPlaceNumber p1))) dX0_isUsed_1 zk_X0_29 (k_X4_isPlaceNumber q p1 M) rfl ⟨by decide, by decide⟩ ⟨by decide, by decide⟩ rfl (Nat.le_of_ble_eq_true rfl) ?_
  refine zg_st (pc' := 4) (L' := [some (.inr 1), some (.inl p1)]) (S' := [.inl (bI ((f_X4_isPlaceNumber p1)))]) (M' := M) rfl rfl rfl rfl ?_
  refine zg_ifbe (tgt := 20) dX0_isUsed_4 rfl (fun c4 => ?_) (fun c4 => ?_)
  · refine zg_st (pc' := 7) (L' := [some (.inr 1), some (.inl p1)]) (S' := []) (M' := M) rfl rfl rfl rfl ?_
    refine zg_aload_n (x := 1) dX0_isUsed_7 rfl ?_
    refine zg_getf (v := .inr 6) dX0_isUsed_8 zf_X0_9 rfl rfl rfl ?_
    refine zg_iload_n (x := p1) dX0_isUsed_11 rfl ?_
    refine zg_zald dX0_isUsed_12 rfl (by simp only [q_isFile, q_isBlock, q_isBlockOfFile, q_isMirror, q_isSideOfMirror, q_isCell, q_isPlaceNumber, q_isCellOnSide, q_isPointer, q_isBlockPointer, vp_in_iff, Int32.lt_iff_toInt_lt, Int32.le_iff_toInt_le, Int32.reduceToInt] at c4 ⊢; omega) ?_
    refine zg_ifz (tgt := 20) dX0_isUsed_13 rfl rfl (fun c13 => ?_) (fun c13 => ?_)
    · refine zg_st (pc' := 20) (L' := [some (.inr 1), some (.inl p1)]) (S' := []) (M' := M) rfl rfl rfl rfl ?_
      refine zg_iconst (v := 0) dX0_isUsed_20 rfl ?_
      exact zg_iret dX0_isUsed_21 rfl rfl ⟨by decide, by decide⟩ rfl
    · refine zg_st (pc' := 16) (L' := [some (.inr 1), some (.inl p1)]) (S' := []) (M' := M) rfl rfl rfl rfl ?_
      refine zg_iconst (v := 1) dX0_isUsed_16 rfl ?_
      refine zg_goto (tgt := 21) dX0_isUsed_17 rfl ?_
      refine zg_st (pc' := 21) (L' := [some (.inr 1), some (.inl p1)]) (S' := [.inl 1]) (M' := M) rfl rfl rfl rfl ?_
      exact zg_iret dX0_isUsed_21 rfl rfl ⟨by decide, by decide⟩ rfl
  · refine zg_st (pc' := 20) (L' := [some (.inr 1), some (.inl p1)]) (S' := []) (M' := M) rfl rfl rfl rfl ?_
    refine zg_iconst (v := 0) dX0_isUsed_20 rfl ?_
    exact zg_iret dX0_isUsed_21 rfl rfl ⟨by decide, by decide⟩ rfl
theorem dX0_countFree_0 : decode cX0_countFree 0 = .ok (.iconst 0, 1) := by decide +kernel
theorem dX0_countFree_1 : decode cX0_countFree 1 = .ok (.istore_n 2, 1) := by decide +kernel
theorem dX0_countFree_2 : decode cX0_countFree 2 = .ok (.iconst 0, 1) := by decide +kernel
theorem dX0_countFree_3 : decode cX0_countFree 3 = .ok (.istore_n 3, 1) := by decide +kernel
theorem dX0_countFree_4 : decode cX0_countFree 4 = .ok (.iload_n 3, 1) := by decide +kernel
theorem dX0_countFree_5 : decode cX0_countFree 5 = .ok (.bipush 40, 2) := by decide +kernel
theorem dX0_countFree_7 : decode cX0_countFree 7 = .ok (.if_icmp .ge 24, 3) := by decide +kernel
theorem dX0_countFree_10 : decode cX0_countFree 10 = .ok (.aload_n 0, 1) := by decide +kernel
theorem dX0_countFree_11 : decode cX0_countFree 11 = .ok (.iload_n 1, 1) := by decide +kernel
theorem dX0_countFree_12 : decode cX0_countFree 12 = .ok (.iload_n 3, 1) := by decide +kernel
theorem dX0_countFree_13 : decode cX0_countFree 13 = .ok (.invokestatic 33, 3) := by decide +kernel
theorem dX0_countFree_16 : decode cX0_countFree 16 = .ok (.invokevirtual 37, 3) := by decide +kernel
theorem dX0_countFree_19 : decode cX0_countFree 19 = .ok (.ifCond .ne 6, 3) := by decide +kernel
theorem dX0_countFree_22 : decode cX0_countFree 22 = .ok (.iinc 2 1, 3) := by decide +kernel
theorem dX0_countFree_25 : decode cX0_countFree 25 = .ok (.iinc 3 1, 3) := by decide +kernel
theorem dX0_countFree_28 : decode cX0_countFree 28 = .ok (.goto (-24), 3) := by decide +kernel
theorem dX0_countFree_31 : decode cX0_countFree 31 = .ok (.iload_n 2, 1) := by decide +kernel
theorem dX0_countFree_32 : decode cX0_countFree 32 = .ok (.ireturn, 1) := by decide +kernel
def b_X0_countFree_4 (x1 : Int32) (M : Mem) (rec : Int32 → Int32 → Int32 × Int32) (v2 : Int32) (v3 : Int32) : Int32 × Int32 :=
  if 40 ≤ v3 then (v2, v3)
  else if (f_X0_isUsed (f_X4_placeNumber x1 v3) M) then rec v2 (v3 + 1)
  else rec (v2 + 1) (v3 + 1)
def l_X0_countFree_4 (x1 : Int32) (M : Mem) : Nat → Int32 → Int32 → Int32 × Int32
  | 0, v2, v3 => (v2, v3)
  | n + 1, v2, v3 => b_X0_countFree_4 x1 M (l_X0_countFree_4 x1 M n) v2 v3
set_option maxRecDepth 100000 in
set_option maxHeartbeats 4000000 in
theorem kl_X0_countFree_4 (q : ZQ) (x1 : Int32) (M : Mem) {K : Int32 × Int32 → ZR} (hx : ∀ e : Int32 × Int32, Zg (zgX q) mX0_countFree 0 0 0 0 (K e) 31 [some (.inr 1), some (.inl x1), some (.inl e.1), some (.inl e.2)] [] M) :
    ∀ (n : Nat) (v2 : Int32) (v3 : Int32), ((40 : Int32).toInt - (v3 : Int32).toInt).toNat < n → Zg (zgX q) mX0_countFree 0 0 0 0 (zlet (l_X0_countFree_4 x1 M n v2 v3) K) 4 [some (.inr 1), some (.inl x1), some (.inl v2), some (.inl v3)] [] M := by
  intro n
  induction n with
  | zero => intro v2 v3 hm; exact absurd hm (Nat.not_lt_zero _)
  | succ n ih =>
    intro v2 v3 hm
    show Zg _ _ _ _ _ _ (zlet (b_X0_countFree_4 x1 M (l_X0_countFree_4 x1 M n) v2 v3) K) _ _ _ _
    unfold b_X0_countFree_4
    refine zg_iload_n (x := v3) dX0_countFree_4 rfl ?_
    refine zg_bipush (v := 40) dX0_countFree_5 rfl ?_
    refine zg_icmpz (tgt := 31) dX0_countFree_7 rfl rfl (fun c7 => ?_) (fun c7 => ?_)
    · refine zg_st (pc' := 31) (L' := [some (.inr 1), some (.inl x1), some (.inl v2), some (.inl v3)]) (S' := []) (M' := M) rfl rfl rfl rfl ?_
      refine zg_drop (L' := [some (.inr 1), some (.inl x1), some (.inl v2), some (.inl v3)]) ⟨rfl, rfl, rfl, rfl, trivial⟩ ?_
      exact hx (v2, v3)
    · refine zg_st (pc' := 10) (L' := [some (.inr 1), some (.inl x1), some (.inl v2), some (.inl v3)]) (S' := []) (M' := M) rfl rfl rfl rfl ?_
      refine zg_aload_n (x := 1) dX0_countFree_10 rfl ?_
      refine zg_iload_n (x := x1) dX0_countFree_11 rfl ?_
      refine zg_iload_n (x := v3) dX0_countFree_12 rfl ?_
      refine zg_cN1 (As := [.inl x1, .inl v3]) (S := [.inr 1]) (v := (f_X4_placeNumber x1 v3)) dX0_countFree_13 zk_X0_33 (k_X4_placeNumber q x1 v3 M) rfl ⟨by decide, by decide⟩ ⟨by decide, by decide⟩ rfl (Nat.le_of_ble_eq_true rfl) ?_
      refine zg_st (pc' := 16) (L' := [some (.inr 1), some (.inl x1), some (.inl v2), some (.inl v3)]) (S' := [.inl (f_X4_placeNumber x1 v3), .inr 1]) (M' := M) rfl rfl rfl rfl ?_
      refine zg_cV1 (As := [.inl (f_X4_placeNumber x1 v3)]) (S := []) (v := bI ((f_X0_isUsed (f_X4_placeNumber x1 v3) M))) dX0_countFree_16 zk_X0_37 (k_X0_isUsed q (f_X4_placeNumber x1 v3) M) rfl rfl ⟨by decide, by decide⟩ ⟨by decide, by decide⟩ rfl (Nat.le_of_ble_eq_true rfl) ?_
      refine zg_st (pc' := 19) (L' := [some (.inr 1), some (.inl x1), some (.inl v2), some (.inl v3)]) (S' := [.inl (bI ((f_X0_isUsed (f_X4_placeNumber x1 v3) M)))]) (M' := M) rfl rfl rfl rfl ?_
      refine zg_ifbn (tgt := 25) dX0_countFree_19 rfl (fun c19 => ?_) (fun c19 => ?_)
      · refine zg_st (pc' := 25) (L' := [some (.inr 1), some (.inl x1), some (.inl v2), some (.inl v3)]) (S' := []) (M' := M) rfl rfl rfl rfl ?_
        refine zg_iinc (v := (v3 + 1)) dX0_countFree_25 rfl (by decide) rfl ?_
        refine zg_st (pc' := 28) (L' := [some (.inr 1), some (.inl x1), some (.inl v2), some (.inl (v3 + 1))]) (S' := []) (M' := M) rfl rfl rfl rfl ?_
        refine zg_goto (tgt := 4) dX0_countFree_28 rfl ?_
        refine zg_st (pc' := 4) (L' := [some (.inr 1), some (.inl x1), some (.inl v2), some (.inl (v3 + 1))]) (S' := []) (M' := M) rfl rfl rfl rfl ?_
        refine zg_drop (L' := [some (.inr 1), some (.inl x1), some (.inl v2), some (.inl (v3 + 1))]) ⟨rfl, rfl, rfl, rfl, trivial⟩ ?_
        exact ih v2 (v3 + 1) (z_up c7 hm)
      · refine zg_st (pc' := 22) (L' := [some (.inr 1), some (.inl x1), some (.inl v2), some (.inl v3)]) (S' := []) (M' := M) rfl rfl rfl rfl ?_
        refine zg_iinc (v := (v2 + 1)) dX0_countFree_22 rfl (by decide) rfl ?_
        refine zg_st (pc' := 25) (L' := [some (.inr 1), some (.inl x1), some (.inl (v2 + 1)), some (.inl v3)]) (S' := []) (M' := M) rfl rfl rfl rfl ?_
        refine zg_iinc (v := (v3 + 1)) dX0_countFree_25 rfl (by decide) rfl ?_
        refine zg_st (pc' := 28) (L' := [some (.inr 1), some (.inl x1), some (.inl (v2 + 1)), some (.inl (v3 + 1))]) (S' := []) (M' := M) rfl rfl rfl rfl ?_
        refine zg_goto (tgt := 4) dX0_countFree_28 rfl ?_
        refine zg_st (pc' := 4) (L' := [some (.inr 1), some (.inl x1), some (.inl (v2 + 1)), some (.inl (v3 + 1))]) (S' := []) (M' := M) rfl rfl rfl rfl ?_
        refine zg_drop (L' := [some (.inr 1), some (.inl x1), some (.inl (v2 + 1)), some (.inl (v3 + 1))]) ⟨rfl, rfl, rfl, rfl, trivial⟩ ?_
        exact ih (v2 + 1) (v3 + 1) (z_up c7 hm)
def f_X0_countFree (p1 : Int32) (M : Mem) : Int32 :=
  zlet (l_X0_countFree_4 p1 M 41 0 0) (fun s1 =>
  s1.1)
set_option maxRecDepth 100000 in
set_option maxHeartbeats 4000000 in
theorem k_X0_countFree (q : ZQ) (p1 : Int32) (M : Mem) : Zc (zgX q) mX0_countFree 0 0 [.inr 1, .inl p1] M (wI M (f_X0_countFree p1 M)) := by
  refine Zc.of (by decide) zi_X0_countFree.1 (Nat.le_of_ble_eq_true rfl) rfl ?_
  show Zg _ _ _ _ _ _ (zlet (f_X0_countFree p1 M) (wI M)) _ _ _ _
  unfold f_X0_countFree
  refine zg_iconst (v := 0) dX0_countFree_0 rfl ?_
  refine zg_istore_n dX0_countFree_1 (by decide) ?_
  refine zg_st (pc' := 2) (L' := [some (.inr 1), some (.inl p1), some (.inl 0), none]) (S' := []) (M' := M) rfl rfl rfl rfl ?_
  refine zg_iconst (v := 0) dX0_countFree_2 rfl ?_
  refine zg_istore_n dX0_countFree_3 (by decide) ?_
  refine zg_st (pc' := 4) (L' := [some (.inr 1), some (.inl p1), some (.inl 0), some (.inl 0)]) (S' := []) (M' := M) rfl rfl rfl rfl ?_
  refine zg_asc ?_
  refine zg_drop (L' := [some (.inr 1), some (.inl p1), some (.inl 0), some (.inl 0)]) ⟨rfl, rfl, rfl, rfl, trivial⟩ ?_
  refine kl_X0_countFree_4 q p1 M (fun s1 => ?_) 41 0 0 (by decide)
  try dsimp only [Sum.elim_inr]
  refine zg_st (pc' := 31) (L' := [some (.inr 1), some (.inl p1), some (.inl s1.1), some (.inl s1.2)]) (S' := []) (M' := M) rfl rfl rfl rfl ?_
  refine zg_iload_n (x := s1.1) dX0_countFree_31 rfl ?_
  exact zg_iret dX0_countFree_32 rfl rfl ⟨by decide, by decide⟩ rfl
theorem dX2_changes_0 : decode cX2_changes 0 = .ok (.iconst 0, 1) := by decide +kernel
theorem dX2_changes_1 : decode cX2_changes 1 = .ok (.istore_n 2, 1) := by decide +kernel
theorem dX2_changes_2 : decode cX2_changes 2 = .ok (.iload_n 2, 1) := by decide +kernel
theorem dX2_changes_3 : decode cX2_changes 3 = .ok (.bipush 12, 2) := by decide +kernel
theorem dX2_changes_5 : decode cX2_changes 5 = .ok (.if_icmp .ge 23, 3) := by decide +kernel
theorem dX2_changes_8 : decode cX2_changes 8 = .ok (.aload_n 0, 1) := by decide +kernel
theorem dX2_changes_9 : decode cX2_changes 9 = .ok (.iload_n 1, 1) := by decide +kernel
theorem dX2_changes_10 : decode cX2_changes 10 = .ok (.iload_n 2, 1) := by decide +kernel
theorem dX2_changes_11 : decode cX2_changes 11 = .ok (.invokestatic 29, 3) := by decide +kernel
theorem dX2_changes_14 : decode cX2_changes 14 = .ok (.invokevirtual 33, 3) := by decide +kernel
theorem dX2_changes_17 : decode cX2_changes 17 = .ok (.ifCond .eq 5, 3) := by decide +kernel
theorem dX2_changes_20 : decode cX2_changes 20 = .ok (.iconst 1, 1) := by decide +kernel
theorem dX2_changes_21 : decode cX2_changes 21 = .ok (.ireturn, 1) := by decide +kernel
theorem dX2_changes_22 : decode cX2_changes 22 = .ok (.iinc 2 1, 3) := by decide +kernel
theorem dX2_changes_25 : decode cX2_changes 25 = .ok (.goto (-23), 3) := by decide +kernel
theorem dX2_changes_28 : decode cX2_changes 28 = .ok (.iconst 0, 1) := by decide +kernel
theorem dX2_changes_29 : decode cX2_changes 29 = .ok (.ireturn, 1) := by decide +kernel
def b_X2_changes_2 (x1 : Int32) (M : Mem) (rec : Int32 → Bool ⊕ (Int32)) (v2 : Int32) : Bool ⊕ (Int32) :=
  if 12 ≤ v2 then .inr v2
  else if (f_X2_holds (f_X4_blockPointer x1 v2) M) then .inl true
  else rec (v2 + 1)
def l_X2_changes_2 (x1 : Int32) (M : Mem) : Nat → Int32 → Bool ⊕ (Int32)
  | 0, v2 => .inr v2
  | n + 1, v2 => b_X2_changes_2 x1 M (l_X2_changes_2 x1 M n) v2
set_option maxRecDepth 100000 in
set_option maxHeartbeats 4000000 in
theorem kl_X2_changes_2 (q : ZQ) (x1 : Int32) (M : Mem) {K : Bool ⊕ (Int32) → ZR} (hret : ∀ r : Bool, K (.inl r) = (wB M) r) (hx : ∀ e : Int32, Zg (zgX q) mX2_changes 0 0 0 0 (K (.inr e)) 28 [some (.inr 3), some (.inl x1), some (.inl e)] [] M) :
    ∀ (n : Nat) (v2 : Int32), ((12 : Int32).toInt - (v2 : Int32).toInt).toNat < n → Zg (zgX q) mX2_changes 0 0 0 0 (zlet (l_X2_changes_2 x1 M n v2) K) 2 [some (.inr 3), some (.inl x1), some (.inl v2)] [] M := by
  intro n
  induction n with
  | zero => intro v2 hm; exact absurd hm (Nat.not_lt_zero _)
  | succ n ih =>
    intro v2 hm
    show Zg _ _ _ _ _ _ (zlet (b_X2_changes_2 x1 M (l_X2_changes_2 x1 M n) v2) K) _ _ _ _
    unfold b_X2_changes_2
    refine zg_iload_n (x := v2) dX2_changes_2 rfl ?_
    refine zg_bipush (v := 12) dX2_changes_3 rfl ?_
    refine zg_icmpz (tgt := 28) dX2_changes_5 rfl rfl (fun c5 => ?_) (fun c5 => ?_)
    · refine zg_st (pc' := 28) (L' := [some (.inr 3), some (.inl x1), some (.inl v2)]) (S' := []) (M' := M) rfl rfl rfl rfl ?_
      refine zg_drop (L' := [some (.inr 3), some (.inl x1), some (.inl v2)]) ⟨rfl, rfl, rfl, trivial⟩ ?_
      exact hx v2
    · refine zg_st (pc' := 8) (L' := [some (.inr 3), some (.inl x1), some (.inl v2)]) (S' := []) (M' := M) rfl rfl rfl rfl ?_
      refine zg_aload_n (x := 3) dX2_changes_8 rfl ?_
      refine zg_iload_n (x := x1) dX2_changes_9 rfl ?_
      refine zg_iload_n (x := v2) dX2_changes_10 rfl ?_
      refine zg_cN1 (As := [.inl x1, .inl v2]) (S := [.inr 3]) (v := (f_X4_blockPointer x1 v2)) dX2_changes_11 zk_X2_29 (k_X4_blockPointer q x1 v2 M) rfl ⟨by decide, by decide⟩ ⟨by decide, by decide⟩ rfl (Nat.le_of_ble_eq_true rfl) ?_
      refine zg_st (pc' := 14) (L' := [some (.inr 3), some (.inl x1), some (.inl v2)]) (S' := [.inl (f_X4_blockPointer x1 v2), .inr 3]) (M' := M) rfl rfl rfl rfl ?_
      refine zg_cV1 (As := [.inl (f_X4_blockPointer x1 v2)]) (S := []) (v := bI ((f_X2_holds (f_X4_blockPointer x1 v2) M))) dX2_changes_14 zk_X2_33 (k_X2_holds q (f_X4_blockPointer x1 v2) M) rfl rfl ⟨by decide, by decide⟩ ⟨by decide, by decide⟩ rfl (Nat.le_of_ble_eq_true rfl) ?_
      refine zg_st (pc' := 17) (L' := [some (.inr 3), some (.inl x1), some (.inl v2)]) (S' := [.inl (bI ((f_X2_holds (f_X4_blockPointer x1 v2) M)))]) (M' := M) rfl rfl rfl rfl ?_
      refine zg_ifbe (tgt := 22) dX2_changes_17 rfl (fun c17 => ?_) (fun c17 => ?_)
      · refine zg_st (pc' := 20) (L' := [some (.inr 3), some (.inl x1), some (.inl v2)]) (S' := []) (M' := M) rfl rfl rfl rfl ?_
        refine zg_iconst (v := 1) dX2_changes_20 rfl ?_
        exact zg_iret dX2_changes_21 rfl rfl ⟨by decide, by decide⟩ (hret _)
      · refine zg_st (pc' := 22) (L' := [some (.inr 3), some (.inl x1), some (.inl v2)]) (S' := []) (M' := M) rfl rfl rfl rfl ?_
        refine zg_iinc (v := (v2 + 1)) dX2_changes_22 rfl (by decide) rfl ?_
        refine zg_st (pc' := 25) (L' := [some (.inr 3), some (.inl x1), some (.inl (v2 + 1))]) (S' := []) (M' := M) rfl rfl rfl rfl ?_
        refine zg_goto (tgt := 2) dX2_changes_25 rfl ?_
        refine zg_st (pc' := 2) (L' := [some (.inr 3), some (.inl x1), some (.inl (v2 + 1))]) (S' := []) (M' := M) rfl rfl rfl rfl ?_
        refine zg_drop (L' := [some (.inr 3), some (.inl x1), some (.inl (v2 + 1))]) ⟨rfl, rfl, rfl, trivial⟩ ?_
        exact ih (v2 + 1) (z_up c5 hm)
def f_X2_changes (p1 : Int32) (M : Mem) : Bool :=
  zlet (l_X2_changes_2 p1 M 13 0) (fun s1 => Sum.elim (fun r => r) (fun e_s1 =>
  false) s1)
set_option maxRecDepth 100000 in
set_option maxHeartbeats 4000000 in
theorem k_X2_changes (q : ZQ) (p1 : Int32) (M : Mem) : Zc (zgX q) mX2_changes 0 0 [.inr 3, .inl p1] M (wB M (f_X2_changes p1 M)) := by
  refine Zc.of (by decide) zi_X2_changes.1 (Nat.le_of_ble_eq_true rfl) rfl ?_
  show Zg _ _ _ _ _ _ (zlet (f_X2_changes p1 M) (wB M)) _ _ _ _
  unfold f_X2_changes
  refine zg_iconst (v := 0) dX2_changes_0 rfl ?_
  refine zg_istore_n dX2_changes_1 (by decide) ?_
  refine zg_st (pc' := 2) (L' := [some (.inr 3), some (.inl p1), some (.inl 0)]) (S' := []) (M' := M) rfl rfl rfl rfl ?_
  refine zg_asc ?_
  refine zg_drop (L' := [some (.inr 3), some (.inl p1), some (.inl 0)]) ⟨rfl, rfl, rfl, trivial⟩ ?_
  refine kl_X2_changes_2 q p1 M ?_ (fun e_s1 => ?_) 13 0 (by decide)
  · exact fun r => rfl
  try dsimp only [Sum.elim_inr]
  refine zg_st (pc' := 28) (L' := [some (.inr 3), some (.inl p1), some (.inl e_s1)]) (S' := []) (M' := M) rfl rfl rfl rfl ?_
  refine zg_iconst (v := 0) dX2_changes_28 rfl ?_
  exact zg_iret dX2_changes_29 rfl rfl ⟨by decide, by decide⟩ rfl
theorem dX3_keepValue_0 : decode cX3_keepValue 0 = .ok (.iload_n 1, 1) := by decide +kernel
theorem dX3_keepValue_1 : decode cX3_keepValue 1 = .ok (.invokestatic 33, 3) := by decide +kernel
theorem dX3_keepValue_4 : decode cX3_keepValue 4 = .ok (.ifCond .eq 10, 3) := by decide +kernel
theorem dX3_keepValue_7 : decode cX3_keepValue 7 = .ok (.aload_n 0, 1) := by decide +kernel
theorem dX3_keepValue_8 : decode cX3_keepValue 8 = .ok (.getfield 9, 3) := by decide +kernel
theorem dX3_keepValue_11 : decode cX3_keepValue 11 = .ok (.iload_n 1, 1) := by decide +kernel
theorem dX3_keepValue_12 : decode cX3_keepValue 12 = .ok (.iload_n 2, 1) := by decide +kernel
theorem dX3_keepValue_13 : decode cX3_keepValue 13 = .ok (.iastore, 1) := by decide +kernel
theorem dX3_keepValue_14 : decode cX3_keepValue 14 = .ok (.return_, 1) := by decide +kernel
def f_X3_keepValue (p1 : Int32) (p2 : Int32) (M : Mem) : Mem :=
  if (f_X4_isBlockPointer p1) then (mup M 10 p1.toNatClampNeg p2)
  else M
set_option maxRecDepth 100000 in
set_option maxHeartbeats 4000000 in
theorem k_X3_keepValue (q : ZQ) (p1 : Int32) (p2 : Int32) (M : Mem) : Zc (zgX q) mX3_keepValue 0 0 [.inr 2, .inl p1, .inl p2] M (wV (f_X3_keepValue p1 p2 M)) := by
  refine Zc.of (by decide) zi_X3_keepValue.1 (Nat.le_of_ble_eq_true rfl) rfl ?_
  show Zg _ _ _ _ _ _ (zlet (f_X3_keepValue p1 p2 M) wV) _ _ _ _
  unfold f_X3_keepValue
  refine zg_iload_n (x := p1) dX3_keepValue_0 rfl ?_
  refine zg_cN1 (As := [.inl p1]) (S := []) (v := bI ((f_X4_isBlockPointer p1))) dX3_keepValue_1 zk_X3_33 (k_X4_isBlockPointer q p1 M) rfl ⟨by decide, by decide⟩ ⟨by decide, by decide⟩ rfl (Nat.le_of_ble_eq_true rfl) ?_
  refine zg_st (pc' := 4) (L' := [some (.inr 2), some (.inl p1), some (.inl p2)]) (S' := [.inl (bI ((f_X4_isBlockPointer p1)))]) (M' := M) rfl rfl rfl rfl ?_
  refine zg_ifbe (tgt := 14) dX3_keepValue_4 rfl (fun c4 => ?_) (fun c4 => ?_)
  · refine zg_st (pc' := 7) (L' := [some (.inr 2), some (.inl p1), some (.inl p2)]) (S' := []) (M' := M) rfl rfl rfl rfl ?_
    refine zg_aload_n (x := 2) dX3_keepValue_7 rfl ?_
    refine zg_getf (v := .inr 10) dX3_keepValue_8 zf_X3_9 rfl rfl rfl ?_
    refine zg_iload_n (x := p1) dX3_keepValue_11 rfl ?_
    refine zg_iload_n (x := p2) dX3_keepValue_12 rfl ?_
    refine zg_iast dX3_keepValue_13 rfl (by simp only [q_isFile, q_isBlock, q_isBlockOfFile, q_isMirror, q_isSideOfMirror, q_isCell, q_isPlaceNumber, q_isCellOnSide, q_isPointer, q_isBlockPointer, vp_in_iff, Int32.lt_iff_toInt_lt, Int32.le_iff_toInt_le, Int32.reduceToInt] at c4 ⊢; omega) ?_
    exact zg_vret dX3_keepValue_14 rfl ⟨by decide, by decide⟩ rfl
  · refine zg_st (pc' := 14) (L' := [some (.inr 2), some (.inl p1), some (.inl p2)]) (S' := []) (M' := M) rfl rfl rfl rfl ?_
    exact zg_vret dX3_keepValue_14 rfl ⟨by decide, by decide⟩ rfl
theorem dX3_point_0 : decode cX3_point 0 = .ok (.iload_n 1, 1) := by decide +kernel
theorem dX3_point_1 : decode cX3_point 1 = .ok (.invokestatic 41, 3) := by decide +kernel
theorem dX3_point_4 : decode cX3_point 4 = .ok (.ifCond .eq 17, 3) := by decide +kernel
theorem dX3_point_7 : decode cX3_point 7 = .ok (.aload_n 0, 1) := by decide +kernel
theorem dX3_point_8 : decode cX3_point 8 = .ok (.getfield 21, 3) := by decide +kernel
theorem dX3_point_11 : decode cX3_point 11 = .ok (.iload_n 1, 1) := by decide +kernel
theorem dX3_point_12 : decode cX3_point 12 = .ok (.iload_n 2, 1) := by decide +kernel
theorem dX3_point_13 : decode cX3_point 13 = .ok (.iastore, 1) := by decide +kernel
theorem dX3_point_14 : decode cX3_point 14 = .ok (.aload_n 0, 1) := by decide +kernel
theorem dX3_point_15 : decode cX3_point 15 = .ok (.getfield 24, 3) := by decide +kernel
theorem dX3_point_18 : decode cX3_point 18 = .ok (.iload_n 1, 1) := by decide +kernel
theorem dX3_point_19 : decode cX3_point 19 = .ok (.iload_n 3, 1) := by decide +kernel
theorem dX3_point_20 : decode cX3_point 20 = .ok (.iastore, 1) := by decide +kernel
theorem dX3_point_21 : decode cX3_point 21 = .ok (.return_, 1) := by decide +kernel
def f_X3_point (p1 : Int32) (p2 : Int32) (p3 : Int32) (M : Mem) : Mem :=
  if (f_X4_isPointer p1) then (mup (mup M 11 p1.toNatClampNeg p2) 12 p1.toNatClampNeg p3)
  else M
set_option maxRecDepth 100000 in
set_option maxHeartbeats 4000000 in
theorem k_X3_point (q : ZQ) (p1 : Int32) (p2 : Int32) (p3 : Int32) (M : Mem) : Zc (zgX q) mX3_point 0 0 [.inr 2, .inl p1, .inl p2, .inl p3] M (wV (f_X3_point p1 p2 p3 M)) := by
  refine Zc.of (by decide) zi_X3_point.1 (Nat.le_of_ble_eq_true rfl) rfl ?_
  show Zg _ _ _ _ _ _ (zlet (f_X3_point p1 p2 p3 M) wV) _ _ _ _
  unfold f_X3_point
  refine zg_iload_n (x := p1) dX3_point_0 rfl ?_
  refine zg_cN1 (As := [.inl p1]) (S := []) (v := bI ((f_X4_isPointer p1))) dX3_point_1 zk_X3_41 (k_X4_isPointer q p1 M) rfl ⟨by decide, by decide⟩ ⟨by decide, by decide⟩ rfl (Nat.le_of_ble_eq_true rfl) ?_
  refine zg_st (pc' := 4) (L' := [some (.inr 2), some (.inl p1), some (.inl p2), some (.inl p3)]) (S' := [.inl (bI ((f_X4_isPointer p1)))]) (M' := M) rfl rfl rfl rfl ?_
  refine zg_ifbe (tgt := 21) dX3_point_4 rfl (fun c4 => ?_) (fun c4 => ?_)
  · refine zg_st (pc' := 7) (L' := [some (.inr 2), some (.inl p1), some (.inl p2), some (.inl p3)]) (S' := []) (M' := M) rfl rfl rfl rfl ?_
    refine zg_aload_n (x := 2) dX3_point_7 rfl ?_
    refine zg_getf (v := .inr 11) dX3_point_8 zf_X3_21 rfl rfl rfl ?_
    refine zg_iload_n (x := p1) dX3_point_11 rfl ?_
    refine zg_iload_n (x := p2) dX3_point_12 rfl ?_
    refine zg_iast dX3_point_13 rfl (by simp only [q_isFile, q_isBlock, q_isBlockOfFile, q_isMirror, q_isSideOfMirror, q_isCell, q_isPlaceNumber, q_isCellOnSide, q_isPointer, q_isBlockPointer, vp_in_iff, Int32.lt_iff_toInt_lt, Int32.le_iff_toInt_le, Int32.reduceToInt] at c4 ⊢; omega) ?_
    refine zg_aload_n (x := 2) dX3_point_14 rfl ?_
    refine zg_getf (v := .inr 12) dX3_point_15 zf_X3_24 rfl rfl rfl ?_
    refine zg_iload_n (x := p1) dX3_point_18 rfl ?_
    refine zg_iload_n (x := p3) dX3_point_19 rfl ?_
    refine zg_iast dX3_point_20 rfl (by simp only [q_isFile, q_isBlock, q_isBlockOfFile, q_isMirror, q_isSideOfMirror, q_isCell, q_isPlaceNumber, q_isCellOnSide, q_isPointer, q_isBlockPointer, vp_in_iff, Int32.lt_iff_toInt_lt, Int32.le_iff_toInt_le, Int32.reduceToInt] at c4 ⊢; omega) ?_
    exact zg_vret dX3_point_21 rfl ⟨by decide, by decide⟩ rfl
  · refine zg_st (pc' := 21) (L' := [some (.inr 2), some (.inl p1), some (.inl p2), some (.inl p3)]) (S' := []) (M' := M) rfl rfl rfl rfl ?_
    exact zg_vret dX3_point_21 rfl ⟨by decide, by decide⟩ rfl
theorem dX3_sign_0 : decode cX3_sign 0 = .ok (.iload_n 1, 1) := by decide +kernel
theorem dX3_sign_1 : decode cX3_sign 1 = .ok (.invokestatic 41, 3) := by decide +kernel
theorem dX3_sign_4 : decode cX3_sign 4 = .ok (.ifCond .eq 17, 3) := by decide +kernel
theorem dX3_sign_7 : decode cX3_sign 7 = .ok (.aload_n 0, 1) := by decide +kernel
theorem dX3_sign_8 : decode cX3_sign 8 = .ok (.getfield 27, 3) := by decide +kernel
theorem dX3_sign_11 : decode cX3_sign 11 = .ok (.iload_n 1, 1) := by decide +kernel
theorem dX3_sign_12 : decode cX3_sign 12 = .ok (.iload_n 2, 1) := by decide +kernel
theorem dX3_sign_13 : decode cX3_sign 13 = .ok (.iastore, 1) := by decide +kernel
theorem dX3_sign_14 : decode cX3_sign 14 = .ok (.aload_n 0, 1) := by decide +kernel
theorem dX3_sign_15 : decode cX3_sign 15 = .ok (.getfield 30, 3) := by decide +kernel
theorem dX3_sign_18 : decode cX3_sign 18 = .ok (.iload_n 1, 1) := by decide +kernel
theorem dX3_sign_19 : decode cX3_sign 19 = .ok (.iload_n 3, 1) := by decide +kernel
theorem dX3_sign_20 : decode cX3_sign 20 = .ok (.iastore, 1) := by decide +kernel
theorem dX3_sign_21 : decode cX3_sign 21 = .ok (.return_, 1) := by decide +kernel
def f_X3_sign (p1 : Int32) (p2 : Int32) (p3 : Int32) (M : Mem) : Mem :=
  if (f_X4_isPointer p1) then (mup (mup M 13 p1.toNatClampNeg p2) 14 p1.toNatClampNeg p3)
  else M
set_option maxRecDepth 100000 in
set_option maxHeartbeats 4000000 in
theorem k_X3_sign (q : ZQ) (p1 : Int32) (p2 : Int32) (p3 : Int32) (M : Mem) : Zc (zgX q) mX3_sign 0 0 [.inr 2, .inl p1, .inl p2, .inl p3] M (wV (f_X3_sign p1 p2 p3 M)) := by
  refine Zc.of (by decide) zi_X3_sign.1 (Nat.le_of_ble_eq_true rfl) rfl ?_
  show Zg _ _ _ _ _ _ (zlet (f_X3_sign p1 p2 p3 M) wV) _ _ _ _
  unfold f_X3_sign
  refine zg_iload_n (x := p1) dX3_sign_0 rfl ?_
  refine zg_cN1 (As := [.inl p1]) (S := []) (v := bI ((f_X4_isPointer p1))) dX3_sign_1 zk_X3_41 (k_X4_isPointer q p1 M) rfl ⟨by decide, by decide⟩ ⟨by decide, by decide⟩ rfl (Nat.le_of_ble_eq_true rfl) ?_
  refine zg_st (pc' := 4) (L' := [some (.inr 2), some (.inl p1), some (.inl p2), some (.inl p3)]) (S' := [.inl (bI ((f_X4_isPointer p1)))]) (M' := M) rfl rfl rfl rfl ?_
  refine zg_ifbe (tgt := 21) dX3_sign_4 rfl (fun c4 => ?_) (fun c4 => ?_)
  · refine zg_st (pc' := 7) (L' := [some (.inr 2), some (.inl p1), some (.inl p2), some (.inl p3)]) (S' := []) (M' := M) rfl rfl rfl rfl ?_
    refine zg_aload_n (x := 2) dX3_sign_7 rfl ?_
    refine zg_getf (v := .inr 13) dX3_sign_8 zf_X3_27 rfl rfl rfl ?_
    refine zg_iload_n (x := p1) dX3_sign_11 rfl ?_
    refine zg_iload_n (x := p2) dX3_sign_12 rfl ?_
    refine zg_iast dX3_sign_13 rfl (by simp only [q_isFile, q_isBlock, q_isBlockOfFile, q_isMirror, q_isSideOfMirror, q_isCell, q_isPlaceNumber, q_isCellOnSide, q_isPointer, q_isBlockPointer, vp_in_iff, Int32.lt_iff_toInt_lt, Int32.le_iff_toInt_le, Int32.reduceToInt] at c4 ⊢; omega) ?_
    refine zg_aload_n (x := 2) dX3_sign_14 rfl ?_
    refine zg_getf (v := .inr 14) dX3_sign_15 zf_X3_30 rfl rfl rfl ?_
    refine zg_iload_n (x := p1) dX3_sign_18 rfl ?_
    refine zg_iload_n (x := p3) dX3_sign_19 rfl ?_
    refine zg_iast dX3_sign_20 rfl (by simp only [q_isFile, q_isBlock, q_isBlockOfFile, q_isMirror, q_isSideOfMirror, q_isCell, q_isPlaceNumber, q_isCellOnSide, q_isPointer, q_isBlockPointer, vp_in_iff, Int32.lt_iff_toInt_lt, Int32.le_iff_toInt_le, Int32.reduceToInt] at c4 ⊢; omega) ?_
    exact zg_vret dX3_sign_21 rfl ⟨by decide, by decide⟩ rfl
  · refine zg_st (pc' := 21) (L' := [some (.inr 2), some (.inl p1), some (.inl p2), some (.inl p3)]) (S' := []) (M' := M) rfl rfl rfl rfl ?_
    exact zg_vret dX3_sign_21 rfl ⟨by decide, by decide⟩ rfl
theorem dX0_fill_0 : decode cX0_fill 0 = .ok (.iconst 0, 1) := by decide +kernel
theorem dX0_fill_1 : decode cX0_fill 1 = .ok (.istore_n 2, 1) := by decide +kernel
theorem dX0_fill_2 : decode cX0_fill 2 = .ok (.iload_n 2, 1) := by decide +kernel
theorem dX0_fill_3 : decode cX0_fill 3 = .ok (.iconst 2, 1) := by decide +kernel
theorem dX0_fill_4 : decode cX0_fill 4 = .ok (.if_icmp .ge 35, 3) := by decide +kernel
theorem dX0_fill_7 : decode cX0_fill 7 = .ok (.iload_n 1, 1) := by decide +kernel
theorem dX0_fill_8 : decode cX0_fill 8 = .ok (.invokestatic 29, 3) := by decide +kernel
theorem dX0_fill_11 : decode cX0_fill 11 = .ok (.ifCond .eq 22, 3) := by decide +kernel
theorem dX0_fill_14 : decode cX0_fill 14 = .ok (.aload_n 0, 1) := by decide +kernel
theorem dX0_fill_15 : decode cX0_fill 15 = .ok (.iload_n 1, 1) := by decide +kernel
theorem dX0_fill_16 : decode cX0_fill 16 = .ok (.invokestatic 43, 3) := by decide +kernel
theorem dX0_fill_19 : decode cX0_fill 19 = .ok (.iload_n 2, 1) := by decide +kernel
theorem dX0_fill_20 : decode cX0_fill 20 = .ok (.invokevirtual 50, 3) := by decide +kernel
theorem dX0_fill_23 : decode cX0_fill 23 = .ok (.ifCond .eq 10, 3) := by decide +kernel
theorem dX0_fill_26 : decode cX0_fill 26 = .ok (.aload_n 0, 1) := by decide +kernel
theorem dX0_fill_27 : decode cX0_fill 27 = .ok (.iload_n 1, 1) := by decide +kernel
theorem dX0_fill_28 : decode cX0_fill 28 = .ok (.iload_n 2, 1) := by decide +kernel
theorem dX0_fill_29 : decode cX0_fill 29 = .ok (.iconst 0, 1) := by decide +kernel
theorem dX0_fill_30 : decode cX0_fill 30 = .ok (.invokevirtual 53, 3) := by decide +kernel
theorem dX0_fill_33 : decode cX0_fill 33 = .ok (.iinc 2 1, 3) := by decide +kernel
theorem dX0_fill_36 : decode cX0_fill 36 = .ok (.goto (-34), 3) := by decide +kernel
theorem dX0_fill_39 : decode cX0_fill 39 = .ok (.return_, 1) := by decide +kernel
def b_X0_fill_2 (x1 : Int32) (rec : Int32 → Mem → Int32 × Mem) (v2 : Int32) (N : Mem) : Int32 × Mem :=
  if 2 ≤ v2 then (v2, N)
  else if (f_X4_isPlaceNumber x1) then if (f_X0_hasOnline (f_X4_mirrorOf x1) v2 N) then zlet (f_X0_mark x1 v2 false N) (fun N1 =>
      rec (v2 + 1) N1)
    else rec (v2 + 1) N
  else rec (v2 + 1) N
def l_X0_fill_2 (x1 : Int32) : Nat → Int32 → Mem → Int32 × Mem
  | 0, v2, N => (v2, N)
  | n + 1, v2, N => b_X0_fill_2 x1 (l_X0_fill_2 x1 n) v2 N
set_option maxRecDepth 100000 in
set_option maxHeartbeats 4000000 in
theorem kl_X0_fill_2 (q : ZQ) (x1 : Int32) {K : Int32 × Mem → ZR} (hx : ∀ e : Int32 × Mem, Zg (zgX q) mX0_fill 0 0 0 0 (K e) 39 [some (.inr 1), some (.inl x1), some (.inl e.1)] [] e.2) :
    ∀ (n : Nat) (v2 : Int32) (N : Mem), ((2 : Int32).toInt - (v2 : Int32).toInt).toNat < n → Zg (zgX q) mX0_fill 0 0 0 0 (zlet (l_X0_fill_2 x1 n v2 N) K) 2 [some (.inr 1), some (.inl x1), some (.inl v2)] [] N := by
  intro n
  induction n with
  | zero => intro v2 N hm; exact absurd hm (Nat.not_lt_zero _)
  | succ n ih =>
    intro v2 N hm
    show Zg _ _ _ _ _ _ (zlet (b_X0_fill_2 x1 (l_X0_fill_2 x1 n) v2 N) K) _ _ _ _
    unfold b_X0_fill_2
    refine zg_iload_n (x := v2) dX0_fill_2 rfl ?_
    refine zg_iconst (v := 2) dX0_fill_3 rfl ?_
    refine zg_icmpz (tgt := 39) dX0_fill_4 rfl rfl (fun c4 => ?_) (fun c4 => ?_)
    · refine zg_st (pc' := 39) (L' := [some (.inr 1), some (.inl x1), some (.inl v2)]) (S' := []) (M' := N) rfl rfl rfl rfl ?_
      refine zg_drop (L' := [some (.inr 1), some (.inl x1), some (.inl v2)]) ⟨rfl, rfl, rfl, trivial⟩ ?_
      exact hx (v2, N)
    · refine zg_st (pc' := 7) (L' := [some (.inr 1), some (.inl x1), some (.inl v2)]) (S' := []) (M' := N) rfl rfl rfl rfl ?_
      refine zg_iload_n (x := x1) dX0_fill_7 rfl ?_
      refine zg_cN1 (As := [.inl x1]) (S := []) (v := bI ((f_X4_isPlaceNumber x1))) dX0_fill_8 zk_X0_29 (k_X4_isPlaceNumber q x1 N) rfl ⟨by decide, by decide⟩ ⟨by decide, by decide⟩ rfl (Nat.le_of_ble_eq_true rfl) ?_
      refine zg_st (pc' := 11) (L' := [some (.inr 1), some (.inl x1), some (.inl v2)]) (S' := [.inl (bI ((f_X4_isPlaceNumber x1)))]) (M' := N) rfl rfl rfl rfl ?_
      refine zg_ifbe (tgt := 33) dX0_fill_11 rfl (fun c11 => ?_) (fun c11 => ?_)
      · refine zg_st (pc' := 14) (L' := [some (.inr 1), some (.inl x1), some (.inl v2)]) (S' := []) (M' := N) rfl rfl rfl rfl ?_
        refine zg_aload_n (x := 1) dX0_fill_14 rfl ?_
        refine zg_iload_n (x := x1) dX0_fill_15 rfl ?_
        refine zg_cN1 (As := [.inl x1]) (S := [.inr 1]) (v := (f_X4_mirrorOf x1)) dX0_fill_16 zk_X0_43 (k_X4_mirrorOf q x1 N) rfl ⟨by decide, by decide⟩ ⟨by decide, by decide⟩ rfl (Nat.le_of_ble_eq_true rfl) ?_
        refine zg_st (pc' := 19) (L' := [some (.inr 1), some (.inl x1), some (.inl v2)]) (S' := [.inl (f_X4_mirrorOf x1), .inr 1]) (M' := N) rfl rfl rfl rfl ?_
        refine zg_iload_n (x := v2) dX0_fill_19 rfl ?_
        refine zg_cV1 (As := [.inl (f_X4_mirrorOf x1), .inl v2]) (S := []) (v := bI ((f_X0_hasOnline (f_X4_mirrorOf x1) v2 N))) dX0_fill_20 zk_X0_50 (k_X0_hasOnline q (f_X4_mirrorOf x1) v2 N) rfl rfl ⟨by decide, by decide⟩ ⟨by decide, by decide⟩ rfl (Nat.le_of_ble_eq_true rfl) ?_
        refine zg_st (pc' := 23) (L' := [some (.inr 1), some (.inl x1), some (.inl v2)]) (S' := [.inl (bI ((f_X0_hasOnline (f_X4_mirrorOf x1) v2 N)))]) (M' := N) rfl rfl rfl rfl ?_
        refine zg_ifbe (tgt := 33) dX0_fill_23 rfl (fun c23 => ?_) (fun c23 => ?_)
        · refine zg_st (pc' := 26) (L' := [some (.inr 1), some (.inl x1), some (.inl v2)]) (S' := []) (M' := N) rfl rfl rfl rfl ?_
          refine zg_aload_n (x := 1) dX0_fill_26 rfl ?_
          refine zg_iload_n (x := x1) dX0_fill_27 rfl ?_
          refine zg_iload_n (x := v2) dX0_fill_28 rfl ?_
          refine zg_iconst (v := 0) dX0_fill_29 rfl ?_
          refine zg_cVV (As := [.inl x1, .inl v2, .inl 0]) (S := []) dX0_fill_30 zk_X0_53 (k_X0_mark q x1 v2 false N) rfl rfl ⟨by decide, by decide⟩ ⟨by decide, by decide⟩ rfl (Nat.le_of_ble_eq_true rfl) (fun N1 e_N1 => ?_)
          try dsimp only
          refine zg_st (pc' := 33) (L' := [some (.inr 1), some (.inl x1), some (.inl v2)]) (S' := []) (M' := N1) rfl rfl rfl rfl ?_
          refine zg_iinc (v := (v2 + 1)) dX0_fill_33 rfl (by decide) rfl ?_
          refine zg_st (pc' := 36) (L' := [some (.inr 1), some (.inl x1), some (.inl (v2 + 1))]) (S' := []) (M' := N1) rfl rfl rfl rfl ?_
          refine zg_goto (tgt := 2) dX0_fill_36 rfl ?_
          refine zg_st (pc' := 2) (L' := [some (.inr 1), some (.inl x1), some (.inl (v2 + 1))]) (S' := []) (M' := N1) rfl rfl rfl rfl ?_
          refine zg_drop (L' := [some (.inr 1), some (.inl x1), some (.inl (v2 + 1))]) ⟨rfl, rfl, rfl, trivial⟩ ?_
          exact ih (v2 + 1) N1 (z_up c4 hm)
        · refine zg_st (pc' := 33) (L' := [some (.inr 1), some (.inl x1), some (.inl v2)]) (S' := []) (M' := N) rfl rfl rfl rfl ?_
          refine zg_iinc (v := (v2 + 1)) dX0_fill_33 rfl (by decide) rfl ?_
          refine zg_st (pc' := 36) (L' := [some (.inr 1), some (.inl x1), some (.inl (v2 + 1))]) (S' := []) (M' := N) rfl rfl rfl rfl ?_
          refine zg_goto (tgt := 2) dX0_fill_36 rfl ?_
          refine zg_st (pc' := 2) (L' := [some (.inr 1), some (.inl x1), some (.inl (v2 + 1))]) (S' := []) (M' := N) rfl rfl rfl rfl ?_
          refine zg_drop (L' := [some (.inr 1), some (.inl x1), some (.inl (v2 + 1))]) ⟨rfl, rfl, rfl, trivial⟩ ?_
          exact ih (v2 + 1) N (z_up c4 hm)
      · refine zg_st (pc' := 33) (L' := [some (.inr 1), some (.inl x1), some (.inl v2)]) (S' := []) (M' := N) rfl rfl rfl rfl ?_
        refine zg_iinc (v := (v2 + 1)) dX0_fill_33 rfl (by decide) rfl ?_
        refine zg_st (pc' := 36) (L' := [some (.inr 1), some (.inl x1), some (.inl (v2 + 1))]) (S' := []) (M' := N) rfl rfl rfl rfl ?_
        refine zg_goto (tgt := 2) dX0_fill_36 rfl ?_
        refine zg_st (pc' := 2) (L' := [some (.inr 1), some (.inl x1), some (.inl (v2 + 1))]) (S' := []) (M' := N) rfl rfl rfl rfl ?_
        refine zg_drop (L' := [some (.inr 1), some (.inl x1), some (.inl (v2 + 1))]) ⟨rfl, rfl, rfl, trivial⟩ ?_
        exact ih (v2 + 1) N (z_up c4 hm)
def f_X0_fill (p1 : Int32) (M : Mem) : Mem :=
  zlet (l_X0_fill_2 p1 3 0 M) (fun s2 =>
  s2.2)
set_option maxRecDepth 100000 in
set_option maxHeartbeats 4000000 in
theorem k_X0_fill (q : ZQ) (p1 : Int32) (M : Mem) : Zc (zgX q) mX0_fill 0 0 [.inr 1, .inl p1] M (wV (f_X0_fill p1 M)) := by
  refine Zc.of (by decide) zi_X0_fill.1 (Nat.le_of_ble_eq_true rfl) rfl ?_
  show Zg _ _ _ _ _ _ (zlet (f_X0_fill p1 M) wV) _ _ _ _
  unfold f_X0_fill
  refine zg_iconst (v := 0) dX0_fill_0 rfl ?_
  refine zg_istore_n dX0_fill_1 (by decide) ?_
  refine zg_st (pc' := 2) (L' := [some (.inr 1), some (.inl p1), some (.inl 0)]) (S' := []) (M' := M) rfl rfl rfl rfl ?_
  refine zg_asc ?_
  refine zg_drop (L' := [some (.inr 1), some (.inl p1), some (.inl 0)]) ⟨rfl, rfl, rfl, trivial⟩ ?_
  refine kl_X0_fill_2 q p1  (fun s2 => ?_) 3 0 M (by decide)
  try dsimp only [Sum.elim_inr]
  refine zg_st (pc' := 39) (L' := [some (.inr 1), some (.inl p1), some (.inl s2.1)]) (S' := []) (M' := s2.2) rfl rfl rfl rfl ?_
  exact zg_vret dX0_fill_39 rfl ⟨by decide, by decide⟩ rfl
theorem dX3_drop_0 : decode cX3_drop 0 = .ok (.aload_n 0, 1) := by decide +kernel
theorem dX3_drop_1 : decode cX3_drop 1 = .ok (.iload_n 1, 1) := by decide +kernel
theorem dX3_drop_2 : decode cX3_drop 2 = .ok (.iconst (-1), 1) := by decide +kernel
theorem dX3_drop_3 : decode cX3_drop 3 = .ok (.iconst (-1), 1) := by decide +kernel
theorem dX3_drop_4 : decode cX3_drop 4 = .ok (.invokevirtual 55, 3) := by decide +kernel
theorem dX3_drop_7 : decode cX3_drop 7 = .ok (.aload_n 0, 1) := by decide +kernel
theorem dX3_drop_8 : decode cX3_drop 8 = .ok (.iload_n 1, 1) := by decide +kernel
theorem dX3_drop_9 : decode cX3_drop 9 = .ok (.iconst 0, 1) := by decide +kernel
theorem dX3_drop_10 : decode cX3_drop 10 = .ok (.iconst 0, 1) := by decide +kernel
theorem dX3_drop_11 : decode cX3_drop 11 = .ok (.invokevirtual 59, 3) := by decide +kernel
theorem dX3_drop_14 : decode cX3_drop 14 = .ok (.return_, 1) := by decide +kernel
def f_X3_drop (p1 : Int32) (M : Mem) : Mem :=
  zlet (f_X3_point p1 (-1) (-1) M) (fun N1 =>
  zlet (f_X3_sign p1 0 0 N1) (fun N2 =>
    N2))
set_option maxRecDepth 100000 in
set_option maxHeartbeats 4000000 in
theorem k_X3_drop (q : ZQ) (p1 : Int32) (M : Mem) : Zc (zgX q) mX3_drop 0 0 [.inr 2, .inl p1] M (wV (f_X3_drop p1 M)) := by
  refine Zc.of (by decide) zi_X3_drop.1 (Nat.le_of_ble_eq_true rfl) rfl ?_
  show Zg _ _ _ _ _ _ (zlet (f_X3_drop p1 M) wV) _ _ _ _
  unfold f_X3_drop
  refine zg_aload_n (x := 2) dX3_drop_0 rfl ?_
  refine zg_iload_n (x := p1) dX3_drop_1 rfl ?_
  refine zg_iconst (v := (-1)) dX3_drop_2 rfl ?_
  refine zg_iconst (v := (-1)) dX3_drop_3 rfl ?_
  refine zg_cVV (As := [.inl p1, .inl (-1), .inl (-1)]) (S := []) dX3_drop_4 zk_X3_55 (k_X3_point q p1 (-1) (-1) M) rfl rfl ⟨by decide, by decide⟩ ⟨by decide, by decide⟩ rfl (Nat.le_of_ble_eq_true rfl) (fun N1 e_N1 => ?_)
  try dsimp only
  refine zg_st (pc' := 7) (L' := [some (.inr 2), some (.inl p1)]) (S' := []) (M' := N1) rfl rfl rfl rfl ?_
  refine zg_aload_n (x := 2) dX3_drop_7 rfl ?_
  refine zg_iload_n (x := p1) dX3_drop_8 rfl ?_
  refine zg_iconst (v := 0) dX3_drop_9 rfl ?_
  refine zg_iconst (v := 0) dX3_drop_10 rfl ?_
  refine zg_cVV (As := [.inl p1, .inl 0, .inl 0]) (S := []) dX3_drop_11 zk_X3_59 (k_X3_sign q p1 0 0 N1) rfl rfl ⟨by decide, by decide⟩ ⟨by decide, by decide⟩ rfl (Nat.le_of_ble_eq_true rfl) (fun N2 e_N2 => ?_)
  try dsimp only
  refine zg_st (pc' := 14) (L' := [some (.inr 2), some (.inl p1)]) (S' := []) (M' := N2) rfl rfl rfl rfl ?_
  exact zg_vret dX3_drop_14 rfl ⟨by decide, by decide⟩ rfl
theorem dX3_checksumOf_0 : decode cX3_checksumOf 0 = .ok (.iload_n 1, 1) := by decide +kernel
theorem dX3_checksumOf_1 : decode cX3_checksumOf 1 = .ok (.invokestatic 41, 3) := by decide +kernel
theorem dX3_checksumOf_4 : decode cX3_checksumOf 4 = .ok (.ifCond .eq 12, 3) := by decide +kernel
theorem dX3_checksumOf_7 : decode cX3_checksumOf 7 = .ok (.aload_n 0, 1) := by decide +kernel
theorem dX3_checksumOf_8 : decode cX3_checksumOf 8 = .ok (.getfield 27, 3) := by decide +kernel
theorem dX3_checksumOf_11 : decode cX3_checksumOf 11 = .ok (.iload_n 1, 1) := by decide +kernel
theorem dX3_checksumOf_12 : decode cX3_checksumOf 12 = .ok (.iaload, 1) := by decide +kernel
theorem dX3_checksumOf_13 : decode cX3_checksumOf 13 = .ok (.goto 4, 3) := by decide +kernel
theorem dX3_checksumOf_16 : decode cX3_checksumOf 16 = .ok (.iconst 0, 1) := by decide +kernel
theorem dX3_checksumOf_17 : decode cX3_checksumOf 17 = .ok (.ireturn, 1) := by decide +kernel
def f_X3_checksumOf (p1 : Int32) (M : Mem) : Int32 :=
  if (f_X4_isPointer p1) then (M 13 p1.toNatClampNeg)
  else 0
set_option maxRecDepth 100000 in
set_option maxHeartbeats 4000000 in
theorem k_X3_checksumOf (q : ZQ) (p1 : Int32) (M : Mem) : Zc (zgX q) mX3_checksumOf 0 0 [.inr 2, .inl p1] M (wI M (f_X3_checksumOf p1 M)) := by
  refine Zc.of (by decide) zi_X3_checksumOf.1 (Nat.le_of_ble_eq_true rfl) rfl ?_
  show Zg _ _ _ _ _ _ (zlet (f_X3_checksumOf p1 M) (wI M)) _ _ _ _
  unfold f_X3_checksumOf
  refine zg_iload_n (x := p1) dX3_checksumOf_0 rfl ?_
  refine zg_cN1 (As := [.inl p1]) (S := []) (v := bI ((f_X4_isPointer p1))) dX3_checksumOf_1 zk_X3_41 (k_X4_isPointer q p1 M) rfl ⟨by decide, by decide⟩ ⟨by decide, by decide⟩ rfl (Nat.le_of_ble_eq_true rfl) ?_
  refine zg_st (pc' := 4) (L' := [some (.inr 2), some (.inl p1)]) (S' := [.inl (bI ((f_X4_isPointer p1)))]) (M' := M) rfl rfl rfl rfl ?_
  refine zg_ifbe (tgt := 16) dX3_checksumOf_4 rfl (fun c4 => ?_) (fun c4 => ?_)
  · refine zg_st (pc' := 7) (L' := [some (.inr 2), some (.inl p1)]) (S' := []) (M' := M) rfl rfl rfl rfl ?_
    refine zg_aload_n (x := 2) dX3_checksumOf_7 rfl ?_
    refine zg_getf (v := .inr 13) dX3_checksumOf_8 zf_X3_27 rfl rfl rfl ?_
    refine zg_iload_n (x := p1) dX3_checksumOf_11 rfl ?_
    refine zg_iald dX3_checksumOf_12 rfl (by simp only [q_isFile, q_isBlock, q_isBlockOfFile, q_isMirror, q_isSideOfMirror, q_isCell, q_isPlaceNumber, q_isCellOnSide, q_isPointer, q_isBlockPointer, vp_in_iff, Int32.lt_iff_toInt_lt, Int32.le_iff_toInt_le, Int32.reduceToInt] at c4 ⊢; omega) ?_
    refine zg_goto (tgt := 17) dX3_checksumOf_13 rfl ?_
    refine zg_st (pc' := 17) (L' := [some (.inr 2), some (.inl p1)]) (S' := [.inl (M 13 p1.toNatClampNeg)]) (M' := M) rfl rfl rfl rfl ?_
    exact zg_iret dX3_checksumOf_17 rfl rfl ⟨by decide, by decide⟩ rfl
  · refine zg_st (pc' := 16) (L' := [some (.inr 2), some (.inl p1)]) (S' := []) (M' := M) rfl rfl rfl rfl ?_
    refine zg_iconst (v := 0) dX3_checksumOf_16 rfl ?_
    exact zg_iret dX3_checksumOf_17 rfl rfl ⟨by decide, by decide⟩ rfl
theorem dX3_birthOf_0 : decode cX3_birthOf 0 = .ok (.iload_n 1, 1) := by decide +kernel
theorem dX3_birthOf_1 : decode cX3_birthOf 1 = .ok (.invokestatic 41, 3) := by decide +kernel
theorem dX3_birthOf_4 : decode cX3_birthOf 4 = .ok (.ifCond .eq 12, 3) := by decide +kernel
theorem dX3_birthOf_7 : decode cX3_birthOf 7 = .ok (.aload_n 0, 1) := by decide +kernel
theorem dX3_birthOf_8 : decode cX3_birthOf 8 = .ok (.getfield 30, 3) := by decide +kernel
theorem dX3_birthOf_11 : decode cX3_birthOf 11 = .ok (.iload_n 1, 1) := by decide +kernel
theorem dX3_birthOf_12 : decode cX3_birthOf 12 = .ok (.iaload, 1) := by decide +kernel
theorem dX3_birthOf_13 : decode cX3_birthOf 13 = .ok (.goto 4, 3) := by decide +kernel
theorem dX3_birthOf_16 : decode cX3_birthOf 16 = .ok (.iconst 0, 1) := by decide +kernel
theorem dX3_birthOf_17 : decode cX3_birthOf 17 = .ok (.ireturn, 1) := by decide +kernel
def f_X3_birthOf (p1 : Int32) (M : Mem) : Int32 :=
  if (f_X4_isPointer p1) then (M 14 p1.toNatClampNeg)
  else 0
set_option maxRecDepth 100000 in
set_option maxHeartbeats 4000000 in
theorem k_X3_birthOf (q : ZQ) (p1 : Int32) (M : Mem) : Zc (zgX q) mX3_birthOf 0 0 [.inr 2, .inl p1] M (wI M (f_X3_birthOf p1 M)) := by
  refine Zc.of (by decide) zi_X3_birthOf.1 (Nat.le_of_ble_eq_true rfl) rfl ?_
  show Zg _ _ _ _ _ _ (zlet (f_X3_birthOf p1 M) (wI M)) _ _ _ _
  unfold f_X3_birthOf
  refine zg_iload_n (x := p1) dX3_birthOf_0 rfl ?_
  refine zg_cN1 (As := [.inl p1]) (S := []) (v := bI ((f_X4_isPointer p1))) dX3_birthOf_1 zk_X3_41 (k_X4_isPointer q p1 M) rfl ⟨by decide, by decide⟩ ⟨by decide, by decide⟩ rfl (Nat.le_of_ble_eq_true rfl) ?_
  refine zg_st (pc' := 4) (L' := [some (.inr 2), some (.inl p1)]) (S' := [.inl (bI ((f_X4_isPointer p1)))]) (M' := M) rfl rfl rfl rfl ?_
  refine zg_ifbe (tgt := 16) dX3_birthOf_4 rfl (fun c4 => ?_) (fun c4 => ?_)
  · refine zg_st (pc' := 7) (L' := [some (.inr 2), some (.inl p1)]) (S' := []) (M' := M) rfl rfl rfl rfl ?_
    refine zg_aload_n (x := 2) dX3_birthOf_7 rfl ?_
    refine zg_getf (v := .inr 14) dX3_birthOf_8 zf_X3_30 rfl rfl rfl ?_
    refine zg_iload_n (x := p1) dX3_birthOf_11 rfl ?_
    refine zg_iald dX3_birthOf_12 rfl (by simp only [q_isFile, q_isBlock, q_isBlockOfFile, q_isMirror, q_isSideOfMirror, q_isCell, q_isPlaceNumber, q_isCellOnSide, q_isPointer, q_isBlockPointer, vp_in_iff, Int32.lt_iff_toInt_lt, Int32.le_iff_toInt_le, Int32.reduceToInt] at c4 ⊢; omega) ?_
    refine zg_goto (tgt := 17) dX3_birthOf_13 rfl ?_
    refine zg_st (pc' := 17) (L' := [some (.inr 2), some (.inl p1)]) (S' := [.inl (M 14 p1.toNatClampNeg)]) (M' := M) rfl rfl rfl rfl ?_
    exact zg_iret dX3_birthOf_17 rfl rfl ⟨by decide, by decide⟩ rfl
  · refine zg_st (pc' := 16) (L' := [some (.inr 2), some (.inl p1)]) (S' := []) (M' := M) rfl rfl rfl rfl ?_
    refine zg_iconst (v := 0) dX3_birthOf_16 rfl ?_
    exact zg_iret dX3_birthOf_17 rfl rfl ⟨by decide, by decide⟩ rfl
theorem dX3_checksumOfNode_0 : decode cX3_checksumOfNode 0 = .ok (.iconst 1, 1) := by decide +kernel
theorem dX3_checksumOfNode_1 : decode cX3_checksumOfNode 1 = .ok (.istore_n 3, 1) := by decide +kernel
theorem dX3_checksumOfNode_2 : decode cX3_checksumOfNode 2 = .ok (.iconst 0, 1) := by decide +kernel
theorem dX3_checksumOfNode_3 : decode cX3_checksumOfNode 3 = .ok (.istore 4, 2) := by decide +kernel
theorem dX3_checksumOfNode_5 : decode cX3_checksumOfNode 5 = .ok (.iload 4, 2) := by decide +kernel
theorem dX3_checksumOfNode_7 : decode cX3_checksumOfNode 7 = .ok (.iload_n 2, 1) := by decide +kernel
theorem dX3_checksumOfNode_8 : decode cX3_checksumOfNode 8 = .ok (.if_icmp .ge 38, 3) := by decide +kernel
theorem dX3_checksumOfNode_11 : decode cX3_checksumOfNode 11 = .ok (.iload_n 1, 1) := by decide +kernel
theorem dX3_checksumOfNode_12 : decode cX3_checksumOfNode 12 = .ok (.iload 4, 2) := by decide +kernel
theorem dX3_checksumOfNode_14 : decode cX3_checksumOfNode 14 = .ok (.iadd, 1) := by decide +kernel
theorem dX3_checksumOfNode_15 : decode cX3_checksumOfNode 15 = .ok (.istore 5, 2) := by decide +kernel
theorem dX3_checksumOfNode_17 : decode cX3_checksumOfNode 17 = .ok (.iload_n 3, 1) := by decide +kernel
theorem dX3_checksumOfNode_18 : decode cX3_checksumOfNode 18 = .ok (.sipush 131, 3) := by decide +kernel
theorem dX3_checksumOfNode_21 : decode cX3_checksumOfNode 21 = .ok (.imul, 1) := by decide +kernel
theorem dX3_checksumOfNode_22 : decode cX3_checksumOfNode 22 = .ok (.aload_n 0, 1) := by decide +kernel
theorem dX3_checksumOfNode_23 : decode cX3_checksumOfNode 23 = .ok (.iload 5, 2) := by decide +kernel
theorem dX3_checksumOfNode_25 : decode cX3_checksumOfNode 25 = .ok (.invokevirtual 47, 3) := by decide +kernel
theorem dX3_checksumOfNode_28 : decode cX3_checksumOfNode 28 = .ok (.iadd, 1) := by decide +kernel
theorem dX3_checksumOfNode_29 : decode cX3_checksumOfNode 29 = .ok (.aload_n 0, 1) := by decide +kernel
theorem dX3_checksumOfNode_30 : decode cX3_checksumOfNode 30 = .ok (.iload 5, 2) := by decide +kernel
theorem dX3_checksumOfNode_32 : decode cX3_checksumOfNode 32 = .ok (.invokevirtual 51, 3) := by decide +kernel
theorem dX3_checksumOfNode_35 : decode cX3_checksumOfNode 35 = .ok (.iadd, 1) := by decide +kernel
theorem dX3_checksumOfNode_36 : decode cX3_checksumOfNode 36 = .ok (.ldc 54, 2) := by decide +kernel
theorem dX3_checksumOfNode_38 : decode cX3_checksumOfNode 38 = .ok (.irem, 1) := by decide +kernel
theorem dX3_checksumOfNode_39 : decode cX3_checksumOfNode 39 = .ok (.istore_n 3, 1) := by decide +kernel
theorem dX3_checksumOfNode_40 : decode cX3_checksumOfNode 40 = .ok (.iinc 4 1, 3) := by decide +kernel
theorem dX3_checksumOfNode_43 : decode cX3_checksumOfNode 43 = .ok (.goto (-38), 3) := by decide +kernel
theorem dX3_checksumOfNode_46 : decode cX3_checksumOfNode 46 = .ok (.iload_n 3, 1) := by decide +kernel
theorem dX3_checksumOfNode_47 : decode cX3_checksumOfNode 47 = .ok (.ireturn, 1) := by decide +kernel
def b_X3_checksumOfNode_5 (x1 : Int32) (x2 : Int32) (M : Mem) (rec : Int32 → Int32 → Int32 × Int32) (v3 : Int32) (v4 : Int32) : Int32 × Int32 :=
  if x2 ≤ v4 then (v3, v4)
  else rec ((((v3 * 131) + (f_X3_checksumOf (x1 + v4) M)) + (f_X3_birthOf (x1 + v4) M)) - (((v3 * 131) + (f_X3_checksumOf (x1 + v4) M)) + (f_X3_birthOf (x1 + v4) M)) / 65521 * 65521) (v4 + 1)
def l_X3_checksumOfNode_5 (x1 : Int32) (x2 : Int32) (M : Mem) : Nat → Int32 → Int32 → Int32 × Int32
  | 0, v3, v4 => (v3, v4)
  | n + 1, v3, v4 => b_X3_checksumOfNode_5 x1 x2 M (l_X3_checksumOfNode_5 x1 x2 M n) v3 v4
set_option maxRecDepth 100000 in
set_option maxHeartbeats 4000000 in
theorem kl_X3_checksumOfNode_5 (q : ZQ) (x1 : Int32) (x2 : Int32) (M : Mem) {K : Int32 × Int32 → ZR} (hx : ∀ e : Int32 × Int32, Zg (zgX q) mX3_checksumOfNode 0 0 0 0 (K e) 46 [some (.inr 2), some (.inl x1), some (.inl x2), some (.inl e.1), some (.inl e.2), none] [] M) :
    ∀ (n : Nat) (v3 : Int32) (v4 : Int32), ((x2 : Int32).toInt - (v4 : Int32).toInt).toNat < n → Zg (zgX q) mX3_checksumOfNode 0 0 0 0 (zlet (l_X3_checksumOfNode_5 x1 x2 M n v3 v4) K) 5 [some (.inr 2), some (.inl x1), some (.inl x2), some (.inl v3), some (.inl v4), none] [] M := by
  intro n
  induction n with
  | zero => intro v3 v4 hm; exact absurd hm (Nat.not_lt_zero _)
  | succ n ih =>
    intro v3 v4 hm
    show Zg _ _ _ _ _ _ (zlet (b_X3_checksumOfNode_5 x1 x2 M (l_X3_checksumOfNode_5 x1 x2 M n) v3 v4) K) _ _ _ _
    unfold b_X3_checksumOfNode_5
    refine zg_iload (x := v4) dX3_checksumOfNode_5 rfl ?_
    refine zg_iload_n (x := x2) dX3_checksumOfNode_7 rfl ?_
    refine zg_icmpz (tgt := 46) dX3_checksumOfNode_8 rfl rfl (fun c8 => ?_) (fun c8 => ?_)
    · refine zg_st (pc' := 46) (L' := [some (.inr 2), some (.inl x1), some (.inl x2), some (.inl v3), some (.inl v4), none]) (S' := []) (M' := M) rfl rfl rfl rfl ?_
      refine zg_drop (L' := [some (.inr 2), some (.inl x1), some (.inl x2), some (.inl v3), some (.inl v4), none]) ⟨rfl, rfl, rfl, rfl, rfl, trivial⟩ ?_
      exact hx (v3, v4)
    · refine zg_st (pc' := 11) (L' := [some (.inr 2), some (.inl x1), some (.inl x2), some (.inl v3), some (.inl v4), none]) (S' := []) (M' := M) rfl rfl rfl rfl ?_
      refine zg_iload_n (x := x1) dX3_checksumOfNode_11 rfl ?_
      refine zg_iload (x := v4) dX3_checksumOfNode_12 rfl ?_
      refine zg_iadd dX3_checksumOfNode_14 ?_
      refine zg_istore dX3_checksumOfNode_15 (by decide) ?_
      refine zg_st (pc' := 17) (L' := [some (.inr 2), some (.inl x1), some (.inl x2), some (.inl v3), some (.inl v4), some (.inl (x1 + v4))]) (S' := []) (M' := M) rfl rfl rfl rfl ?_
      refine zg_iload_n (x := v3) dX3_checksumOfNode_17 rfl ?_
      refine zg_sipush (v := 131) dX3_checksumOfNode_18 rfl ?_
      refine zg_imul dX3_checksumOfNode_21 ?_
      refine zg_aload_n (x := 2) dX3_checksumOfNode_22 rfl ?_
      refine zg_iload (x := (x1 + v4)) dX3_checksumOfNode_23 rfl ?_
      refine zg_cV1 (As := [.inl (x1 + v4)]) (S := [.inl (v3 * 131)]) (v := (f_X3_checksumOf (x1 + v4) M)) dX3_checksumOfNode_25 zk_X3_47 (k_X3_checksumOf q (x1 + v4) M) rfl rfl ⟨by decide, by decide⟩ ⟨by decide, by decide⟩ rfl (Nat.le_of_ble_eq_true rfl) ?_
      refine zg_st (pc' := 28) (L' := [some (.inr 2), some (.inl x1), some (.inl x2), some (.inl v3), some (.inl v4), some (.inl (x1 + v4))]) (S' := [.inl (f_X3_checksumOf (x1 + v4) M), .inl (v3 * 131)]) (M' := M) rfl rfl rfl rfl ?_
      refine zg_iadd dX3_checksumOfNode_28 ?_
      refine zg_aload_n (x := 2) dX3_checksumOfNode_29 rfl ?_
      refine zg_iload (x := (x1 + v4)) dX3_checksumOfNode_30 rfl ?_
      refine zg_cV1 (As := [.inl (x1 + v4)]) (S := [.inl ((v3 * 131) + (f_X3_checksumOf (x1 + v4) M))]) (v := (f_X3_birthOf (x1 + v4) M)) dX3_checksumOfNode_32 zk_X3_51 (k_X3_birthOf q (x1 + v4) M) rfl rfl ⟨by decide, by decide⟩ ⟨by decide, by decide⟩ rfl (Nat.le_of_ble_eq_true rfl) ?_
      refine zg_st (pc' := 35) (L' := [some (.inr 2), some (.inl x1), some (.inl x2), some (.inl v3), some (.inl v4), some (.inl (x1 + v4))]) (S' := [.inl (f_X3_birthOf (x1 + v4) M), .inl ((v3 * 131) + (f_X3_checksumOf (x1 + v4) M))]) (M' := M) rfl rfl rfl rfl ?_
      refine zg_iadd dX3_checksumOfNode_35 ?_
      refine zg_ldc (v := 65521) dX3_checksumOfNode_36 (zm3 180 (by decide +kernel) rfl) ?_
      refine zg_irem dX3_checksumOfNode_38 (by decide) ?_
      refine zg_istore_n dX3_checksumOfNode_39 (by decide) ?_
      refine zg_st (pc' := 40) (L' := [some (.inr 2), some (.inl x1), some (.inl x2), some (.inl ((((v3 * 131) + (f_X3_checksumOf (x1 + v4) M)) + (f_X3_birthOf (x1 + v4) M)) - (((v3 * 131) + (f_X3_checksumOf (x1 + v4) M)) + (f_X3_birthOf (x1 + v4) M)) / 65521 * 65521)), some (.inl v4), some (.inl (x1 + v4))]) (S' := []) (M' := M) rfl rfl rfl rfl ?_
      refine zg_iinc (v := (v4 + 1)) dX3_checksumOfNode_40 rfl (by decide) rfl ?_
      refine zg_st (pc' := 43) (L' := [some (.inr 2), some (.inl x1), some (.inl x2), some (.inl ((((v3 * 131) + (f_X3_checksumOf (x1 + v4) M)) + (f_X3_birthOf (x1 + v4) M)) - (((v3 * 131) + (f_X3_checksumOf (x1 + v4) M)) + (f_X3_birthOf (x1 + v4) M)) / 65521 * 65521)), some (.inl (v4 + 1)), some (.inl (x1 + v4))]) (S' := []) (M' := M) rfl rfl rfl rfl ?_
      refine zg_goto (tgt := 5) dX3_checksumOfNode_43 rfl ?_
      refine zg_st (pc' := 5) (L' := [some (.inr 2), some (.inl x1), some (.inl x2), some (.inl ((((v3 * 131) + (f_X3_checksumOf (x1 + v4) M)) + (f_X3_birthOf (x1 + v4) M)) - (((v3 * 131) + (f_X3_checksumOf (x1 + v4) M)) + (f_X3_birthOf (x1 + v4) M)) / 65521 * 65521)), some (.inl (v4 + 1)), some (.inl (x1 + v4))]) (S' := []) (M' := M) rfl rfl rfl rfl ?_
      refine zg_drop (L' := [some (.inr 2), some (.inl x1), some (.inl x2), some (.inl ((((v3 * 131) + (f_X3_checksumOf (x1 + v4) M)) + (f_X3_birthOf (x1 + v4) M)) - (((v3 * 131) + (f_X3_checksumOf (x1 + v4) M)) + (f_X3_birthOf (x1 + v4) M)) / 65521 * 65521)), some (.inl (v4 + 1)), none]) ⟨rfl, rfl, rfl, rfl, rfl, trivial⟩ ?_
      exact ih ((((v3 * 131) + (f_X3_checksumOf (x1 + v4) M)) + (f_X3_birthOf (x1 + v4) M)) - (((v3 * 131) + (f_X3_checksumOf (x1 + v4) M)) + (f_X3_birthOf (x1 + v4) M)) / 65521 * 65521) (v4 + 1) (z_up c8 hm)
def f_X3_checksumOfNode (p1 : Int32) (p2 : Int32) (M : Mem) : Int32 :=
  zlet (l_X3_checksumOfNode_5 p1 p2 M (((p2 : Int32).toInt - (0 : Int32).toInt).toNat + 1) 1 0) (fun s1 =>
  s1.1)
set_option maxRecDepth 100000 in
set_option maxHeartbeats 4000000 in
theorem k_X3_checksumOfNode (q : ZQ) (p1 : Int32) (p2 : Int32) (M : Mem) : Zc (zgX q) mX3_checksumOfNode 0 0 [.inr 2, .inl p1, .inl p2] M (wI M (f_X3_checksumOfNode p1 p2 M)) := by
  refine Zc.of (by decide) zi_X3_checksumOfNode.1 (Nat.le_of_ble_eq_true rfl) rfl ?_
  show Zg _ _ _ _ _ _ (zlet (f_X3_checksumOfNode p1 p2 M) (wI M)) _ _ _ _
  unfold f_X3_checksumOfNode
  refine zg_iconst (v := 1) dX3_checksumOfNode_0 rfl ?_
  refine zg_istore_n dX3_checksumOfNode_1 (by decide) ?_
  refine zg_st (pc' := 2) (L' := [some (.inr 2), some (.inl p1), some (.inl p2), some (.inl 1), none, none]) (S' := []) (M' := M) rfl rfl rfl rfl ?_
  refine zg_iconst (v := 0) dX3_checksumOfNode_2 rfl ?_
  refine zg_istore dX3_checksumOfNode_3 (by decide) ?_
  refine zg_st (pc' := 5) (L' := [some (.inr 2), some (.inl p1), some (.inl p2), some (.inl 1), some (.inl 0), none]) (S' := []) (M' := M) rfl rfl rfl rfl ?_
  refine zg_asc ?_
  refine zg_drop (L' := [some (.inr 2), some (.inl p1), some (.inl p2), some (.inl 1), some (.inl 0), none]) ⟨rfl, rfl, rfl, rfl, rfl, trivial⟩ ?_
  refine kl_X3_checksumOfNode_5 q p1 p2 M (fun s1 => ?_) (((p2 : Int32).toInt - (0 : Int32).toInt).toNat + 1) 1 0 (Nat.lt_succ_self _)
  try dsimp only [Sum.elim_inr]
  refine zg_st (pc' := 46) (L' := [some (.inr 2), some (.inl p1), some (.inl p2), some (.inl s1.1), some (.inl s1.2), none]) (S' := []) (M' := M) rfl rfl rfl rfl ?_
  refine zg_iload_n (x := s1.1) dX3_checksumOfNode_46 rfl ?_
  exact zg_iret dX3_checksumOfNode_47 rfl rfl ⟨by decide, by decide⟩ rfl
theorem dX0_freeAll_0 : decode cX0_freeAll 0 = .ok (.iconst 0, 1) := by decide +kernel
theorem dX0_freeAll_1 : decode cX0_freeAll 1 = .ok (.istore_n 1, 1) := by decide +kernel
theorem dX0_freeAll_2 : decode cX0_freeAll 2 = .ok (.iload_n 1, 1) := by decide +kernel
theorem dX0_freeAll_3 : decode cX0_freeAll 3 = .ok (.bipush 120, 2) := by decide +kernel
theorem dX0_freeAll_5 : decode cX0_freeAll 5 = .ok (.if_icmp .ge 16, 3) := by decide +kernel
theorem dX0_freeAll_8 : decode cX0_freeAll 8 = .ok (.aload_n 0, 1) := by decide +kernel
theorem dX0_freeAll_9 : decode cX0_freeAll 9 = .ok (.getfield 9, 3) := by decide +kernel
theorem dX0_freeAll_12 : decode cX0_freeAll 12 = .ok (.iload_n 1, 1) := by decide +kernel
theorem dX0_freeAll_13 : decode cX0_freeAll 13 = .ok (.iconst 0, 1) := by decide +kernel
theorem dX0_freeAll_14 : decode cX0_freeAll 14 = .ok (.bastore, 1) := by decide +kernel
theorem dX0_freeAll_15 : decode cX0_freeAll 15 = .ok (.iinc 1 1, 3) := by decide +kernel
theorem dX0_freeAll_18 : decode cX0_freeAll 18 = .ok (.goto (-16), 3) := by decide +kernel
theorem dX0_freeAll_21 : decode cX0_freeAll 21 = .ok (.return_, 1) := by decide +kernel
def b_X0_freeAll_2 (rec : Int32 → Mem → Int32 × Mem) (v1 : Int32) (N : Mem) : Int32 × Mem :=
  if 120 ≤ v1 then (v1, N)
  else rec (v1 + 1) (mup N 6 v1.toNatClampNeg 0)
def l_X0_freeAll_2 : Nat → Int32 → Mem → Int32 × Mem
  | 0, v1, N => (v1, N)
  | n + 1, v1, N => b_X0_freeAll_2 (l_X0_freeAll_2 n) v1 N
set_option maxRecDepth 100000 in
set_option maxHeartbeats 4000000 in
theorem kl_X0_freeAll_2 (q : ZQ) {K : Int32 × Mem → ZR} (hx : ∀ e : Int32 × Mem, (0 : Int) ≤ e.1.toInt → Zg (zgX q) mX0_freeAll 0 0 0 0 (K e) 21 [some (.inr 1), some (.inl e.1)] [] e.2) :
    ∀ (n : Nat) (v1 : Int32) (N : Mem), (0 : Int) ≤ v1.toInt → ((120 : Int32).toInt - (v1 : Int32).toInt).toNat < n → Zg (zgX q) mX0_freeAll 0 0 0 0 (zlet (l_X0_freeAll_2 n v1 N) K) 2 [some (.inr 1), some (.inl v1)] [] N := by
  intro n
  induction n with
  | zero => intro v1 N hI hm; exact absurd hm (Nat.not_lt_zero _)
  | succ n ih =>
    intro v1 N hI hm
    show Zg _ _ _ _ _ _ (zlet (b_X0_freeAll_2 (l_X0_freeAll_2 n) v1 N) K) _ _ _ _
    unfold b_X0_freeAll_2
    refine zg_iload_n (x := v1) dX0_freeAll_2 rfl ?_
    refine zg_bipush (v := 120) dX0_freeAll_3 rfl ?_
    refine zg_icmpz (tgt := 21) dX0_freeAll_5 rfl rfl (fun c5 => ?_) (fun c5 => ?_)
    · refine zg_st (pc' := 21) (L' := [some (.inr 1), some (.inl v1)]) (S' := []) (M' := N) rfl rfl rfl rfl ?_
      refine zg_drop (L' := [some (.inr 1), some (.inl v1)]) ⟨rfl, rfl, trivial⟩ ?_
      exact hx (v1, N) hI
    · refine zg_st (pc' := 8) (L' := [some (.inr 1), some (.inl v1)]) (S' := []) (M' := N) rfl rfl rfl rfl ?_
      refine zg_aload_n (x := 1) dX0_freeAll_8 rfl ?_
      refine zg_getf (v := .inr 6) dX0_freeAll_9 zf_X0_9 rfl rfl rfl ?_
      refine zg_iload_n (x := v1) dX0_freeAll_12 rfl ?_
      refine zg_iconst (v := 0) dX0_freeAll_13 rfl ?_
      refine zg_zast (v := 0) dX0_freeAll_14 rfl (by simp only [q_isFile, q_isBlock, q_isBlockOfFile, q_isMirror, q_isSideOfMirror, q_isCell, q_isPlaceNumber, q_isCellOnSide, q_isPointer, q_isBlockPointer, vp_in_iff, Int32.lt_iff_toInt_lt, Int32.le_iff_toInt_le, Int32.reduceToInt] at c5 hI ⊢; omega) rfl ?_
      refine zg_iinc (v := (v1 + 1)) dX0_freeAll_15 rfl (by decide) rfl ?_
      refine zg_st (pc' := 18) (L' := [some (.inr 1), some (.inl (v1 + 1))]) (S' := []) (M' := (mup N 6 v1.toNatClampNeg 0)) rfl rfl rfl rfl ?_
      refine zg_goto (tgt := 2) dX0_freeAll_18 rfl ?_
      refine zg_st (pc' := 2) (L' := [some (.inr 1), some (.inl (v1 + 1))]) (S' := []) (M' := (mup N 6 v1.toNatClampNeg 0)) rfl rfl rfl rfl ?_
      refine zg_drop (L' := [some (.inr 1), some (.inl (v1 + 1))]) ⟨rfl, rfl, trivial⟩ ?_
      exact ih (v1 + 1) (mup N 6 v1.toNatClampNeg 0) (z_ge0 c5 hI) (z_up c5 hm)
def f_X0_freeAll (M : Mem) : Mem :=
  zlet (l_X0_freeAll_2 121 0 M) (fun s1 =>
  s1.2)
set_option maxRecDepth 100000 in
set_option maxHeartbeats 4000000 in
theorem k_X0_freeAll (q : ZQ) (M : Mem) : Zc (zgX q) mX0_freeAll 0 0 [.inr 1] M (wV (f_X0_freeAll M)) := by
  refine Zc.of (by decide) zi_X0_freeAll.1 (Nat.le_of_ble_eq_true rfl) rfl ?_
  show Zg _ _ _ _ _ _ (zlet (f_X0_freeAll M) wV) _ _ _ _
  unfold f_X0_freeAll
  refine zg_iconst (v := 0) dX0_freeAll_0 rfl ?_
  refine zg_istore_n dX0_freeAll_1 (by decide) ?_
  refine zg_st (pc' := 2) (L' := [some (.inr 1), some (.inl 0)]) (S' := []) (M' := M) rfl rfl rfl rfl ?_
  refine zg_asc ?_
  refine zg_drop (L' := [some (.inr 1), some (.inl 0)]) ⟨rfl, rfl, trivial⟩ ?_
  refine kl_X0_freeAll_2 q  (fun s1 hI_s1 => ?_) 121 0 M (by decide) (by decide)
  try dsimp only [Sum.elim_inr]
  refine zg_st (pc' := 21) (L' := [some (.inr 1), some (.inl s1.1)]) (S' := []) (M' := s1.2) rfl rfl rfl rfl ?_
  exact zg_vret dX0_freeAll_21 rfl ⟨by decide, by decide⟩ rfl
theorem dX0_use_0 : decode cX0_use 0 = .ok (.iload_n 1, 1) := by decide +kernel
theorem dX0_use_1 : decode cX0_use 1 = .ok (.invokestatic 29, 3) := by decide +kernel
theorem dX0_use_4 : decode cX0_use 4 = .ok (.ifCond .eq 10, 3) := by decide +kernel
theorem dX0_use_7 : decode cX0_use 7 = .ok (.aload_n 0, 1) := by decide +kernel
theorem dX0_use_8 : decode cX0_use 8 = .ok (.getfield 9, 3) := by decide +kernel
theorem dX0_use_11 : decode cX0_use 11 = .ok (.iload_n 1, 1) := by decide +kernel
theorem dX0_use_12 : decode cX0_use 12 = .ok (.iconst 1, 1) := by decide +kernel
theorem dX0_use_13 : decode cX0_use 13 = .ok (.bastore, 1) := by decide +kernel
theorem dX0_use_14 : decode cX0_use 14 = .ok (.return_, 1) := by decide +kernel
def f_X0_use (p1 : Int32) (M : Mem) : Mem :=
  if (f_X4_isPlaceNumber p1) then (mup M 6 p1.toNatClampNeg 1)
  else M
set_option maxRecDepth 100000 in
set_option maxHeartbeats 4000000 in
theorem k_X0_use (q : ZQ) (p1 : Int32) (M : Mem) : Zc (zgX q) mX0_use 0 0 [.inr 1, .inl p1] M (wV (f_X0_use p1 M)) := by
  refine Zc.of (by decide) zi_X0_use.1 (Nat.le_of_ble_eq_true rfl) rfl ?_
  show Zg _ _ _ _ _ _ (zlet (f_X0_use p1 M) wV) _ _ _ _
  unfold f_X0_use
  refine zg_iload_n (x := p1) dX0_use_0 rfl ?_
  refine zg_cN1 (As := [.inl p1]) (S := []) (v := bI ((f_X4_isPlaceNumber p1))) dX0_use_1 zk_X0_29 (k_X4_isPlaceNumber q p1 M) rfl ⟨by decide, by decide⟩ ⟨by decide, by decide⟩ rfl (Nat.le_of_ble_eq_true rfl) ?_
  refine zg_st (pc' := 4) (L' := [some (.inr 1), some (.inl p1)]) (S' := [.inl (bI ((f_X4_isPlaceNumber p1)))]) (M' := M) rfl rfl rfl rfl ?_
  refine zg_ifbe (tgt := 14) dX0_use_4 rfl (fun c4 => ?_) (fun c4 => ?_)
  · refine zg_st (pc' := 7) (L' := [some (.inr 1), some (.inl p1)]) (S' := []) (M' := M) rfl rfl rfl rfl ?_
    refine zg_aload_n (x := 1) dX0_use_7 rfl ?_
    refine zg_getf (v := .inr 6) dX0_use_8 zf_X0_9 rfl rfl rfl ?_
    refine zg_iload_n (x := p1) dX0_use_11 rfl ?_
    refine zg_iconst (v := 1) dX0_use_12 rfl ?_
    refine zg_zast (v := 1) dX0_use_13 rfl (by simp only [q_isFile, q_isBlock, q_isBlockOfFile, q_isMirror, q_isSideOfMirror, q_isCell, q_isPlaceNumber, q_isCellOnSide, q_isPointer, q_isBlockPointer, vp_in_iff, Int32.lt_iff_toInt_lt, Int32.le_iff_toInt_le, Int32.reduceToInt] at c4 ⊢; omega) rfl ?_
    exact zg_vret dX0_use_14 rfl ⟨by decide, by decide⟩ rfl
  · refine zg_st (pc' := 14) (L' := [some (.inr 1), some (.inl p1)]) (S' := []) (M' := M) rfl rfl rfl rfl ?_
    exact zg_vret dX0_use_14 rfl ⟨by decide, by decide⟩ rfl
theorem dX0_takeOffline_0 : decode cX0_takeOffline 0 = .ok (.iload_n 1, 1) := by decide +kernel
theorem dX0_takeOffline_1 : decode cX0_takeOffline 1 = .ok (.iload_n 2, 1) := by decide +kernel
theorem dX0_takeOffline_2 : decode cX0_takeOffline 2 = .ok (.invokestatic 25, 3) := by decide +kernel
theorem dX0_takeOffline_5 : decode cX0_takeOffline 5 = .ok (.ifCond .eq 25, 3) := by decide +kernel
theorem dX0_takeOffline_8 : decode cX0_takeOffline 8 = .ok (.aload_n 0, 1) := by decide +kernel
theorem dX0_takeOffline_9 : decode cX0_takeOffline 9 = .ok (.getfield 18, 3) := by decide +kernel
theorem dX0_takeOffline_12 : decode cX0_takeOffline 12 = .ok (.iload_n 1, 1) := by decide +kernel
theorem dX0_takeOffline_13 : decode cX0_takeOffline 13 = .ok (.iconst 2, 1) := by decide +kernel
theorem dX0_takeOffline_14 : decode cX0_takeOffline 14 = .ok (.imul, 1) := by decide +kernel
theorem dX0_takeOffline_15 : decode cX0_takeOffline 15 = .ok (.iload_n 2, 1) := by decide +kernel
theorem dX0_takeOffline_16 : decode cX0_takeOffline 16 = .ok (.iadd, 1) := by decide +kernel
theorem dX0_takeOffline_17 : decode cX0_takeOffline 17 = .ok (.iconst 1, 1) := by decide +kernel
theorem dX0_takeOffline_18 : decode cX0_takeOffline 18 = .ok (.bastore, 1) := by decide +kernel
theorem dX0_takeOffline_19 : decode cX0_takeOffline 19 = .ok (.aload_n 0, 1) := by decide +kernel
theorem dX0_takeOffline_20 : decode cX0_takeOffline 20 = .ok (.getfield 21, 3) := by decide +kernel
theorem dX0_takeOffline_23 : decode cX0_takeOffline 23 = .ok (.iload_n 1, 1) := by decide +kernel
theorem dX0_takeOffline_24 : decode cX0_takeOffline 24 = .ok (.iconst 2, 1) := by decide +kernel
theorem dX0_takeOffline_25 : decode cX0_takeOffline 25 = .ok (.imul, 1) := by decide +kernel
theorem dX0_takeOffline_26 : decode cX0_takeOffline 26 = .ok (.iload_n 2, 1) := by decide +kernel
theorem dX0_takeOffline_27 : decode cX0_takeOffline 27 = .ok (.iadd, 1) := by decide +kernel
theorem dX0_takeOffline_28 : decode cX0_takeOffline 28 = .ok (.iload_n 3, 1) := by decide +kernel
theorem dX0_takeOffline_29 : decode cX0_takeOffline 29 = .ok (.iastore, 1) := by decide +kernel
theorem dX0_takeOffline_30 : decode cX0_takeOffline 30 = .ok (.return_, 1) := by decide +kernel
def f_X0_takeOffline (p1 : Int32) (p2 : Int32) (p3 : Int32) (M : Mem) : Mem :=
  if (f_X4_isSideOfMirror p1 p2) then (mup (mup M 8 ((p1 * 2) + p2).toNatClampNeg 1) 9 ((p1 * 2) + p2).toNatClampNeg p3)
  else M
set_option maxRecDepth 100000 in
set_option maxHeartbeats 4000000 in
theorem k_X0_takeOffline (q : ZQ) (p1 : Int32) (p2 : Int32) (p3 : Int32) (M : Mem) : Zc (zgX q) mX0_takeOffline 0 0 [.inr 1, .inl p1, .inl p2, .inl p3] M (wV (f_X0_takeOffline p1 p2 p3 M)) := by
  refine Zc.of (by decide) zi_X0_takeOffline.1 (Nat.le_of_ble_eq_true rfl) rfl ?_
  show Zg _ _ _ _ _ _ (zlet (f_X0_takeOffline p1 p2 p3 M) wV) _ _ _ _
  unfold f_X0_takeOffline
  refine zg_iload_n (x := p1) dX0_takeOffline_0 rfl ?_
  refine zg_iload_n (x := p2) dX0_takeOffline_1 rfl ?_
  refine zg_cN1 (As := [.inl p1, .inl p2]) (S := []) (v := bI ((f_X4_isSideOfMirror p1 p2))) dX0_takeOffline_2 zk_X0_25 (k_X4_isSideOfMirror q p1 p2 M) rfl ⟨by decide, by decide⟩ ⟨by decide, by decide⟩ rfl (Nat.le_of_ble_eq_true rfl) ?_
  refine zg_st (pc' := 5) (L' := [some (.inr 1), some (.inl p1), some (.inl p2), some (.inl p3)]) (S' := [.inl (bI ((f_X4_isSideOfMirror p1 p2)))]) (M' := M) rfl rfl rfl rfl ?_
  refine zg_ifbe (tgt := 30) dX0_takeOffline_5 rfl (fun c5 => ?_) (fun c5 => ?_)
  · refine zg_st (pc' := 8) (L' := [some (.inr 1), some (.inl p1), some (.inl p2), some (.inl p3)]) (S' := []) (M' := M) rfl rfl rfl rfl ?_
    refine zg_aload_n (x := 1) dX0_takeOffline_8 rfl ?_
    refine zg_getf (v := .inr 8) dX0_takeOffline_9 zf_X0_18 rfl rfl rfl ?_
    refine zg_iload_n (x := p1) dX0_takeOffline_12 rfl ?_
    refine zg_iconst (v := 2) dX0_takeOffline_13 rfl ?_
    refine zg_imul dX0_takeOffline_14 ?_
    refine zg_iload_n (x := p2) dX0_takeOffline_15 rfl ?_
    refine zg_iadd dX0_takeOffline_16 ?_
    refine zg_iconst (v := 1) dX0_takeOffline_17 rfl ?_
    refine zg_zast (v := 1) dX0_takeOffline_18 rfl (z_ix2 (by simp only [q_isFile, q_isBlock, q_isBlockOfFile, q_isMirror, q_isSideOfMirror, q_isCell, q_isPlaceNumber, q_isCellOnSide, q_isPointer, q_isBlockPointer, vp_in_iff, Int32.lt_iff_toInt_lt, Int32.le_iff_toInt_le, Int32.reduceToInt] at c5 ⊢; omega) (by simp only [q_isFile, q_isBlock, q_isBlockOfFile, q_isMirror, q_isSideOfMirror, q_isCell, q_isPlaceNumber, q_isCellOnSide, q_isPointer, q_isBlockPointer, vp_in_iff, Int32.lt_iff_toInt_lt, Int32.le_iff_toInt_le, Int32.reduceToInt] at c5 ⊢; omega)) rfl ?_
    refine zg_aload_n (x := 1) dX0_takeOffline_19 rfl ?_
    refine zg_getf (v := .inr 9) dX0_takeOffline_20 zf_X0_21 rfl rfl rfl ?_
    refine zg_iload_n (x := p1) dX0_takeOffline_23 rfl ?_
    refine zg_iconst (v := 2) dX0_takeOffline_24 rfl ?_
    refine zg_imul dX0_takeOffline_25 ?_
    refine zg_iload_n (x := p2) dX0_takeOffline_26 rfl ?_
    refine zg_iadd dX0_takeOffline_27 ?_
    refine zg_iload_n (x := p3) dX0_takeOffline_28 rfl ?_
    refine zg_iast dX0_takeOffline_29 rfl (z_ix2 (by simp only [q_isFile, q_isBlock, q_isBlockOfFile, q_isMirror, q_isSideOfMirror, q_isCell, q_isPlaceNumber, q_isCellOnSide, q_isPointer, q_isBlockPointer, vp_in_iff, Int32.lt_iff_toInt_lt, Int32.le_iff_toInt_le, Int32.reduceToInt] at c5 ⊢; omega) (by simp only [q_isFile, q_isBlock, q_isBlockOfFile, q_isMirror, q_isSideOfMirror, q_isCell, q_isPlaceNumber, q_isCellOnSide, q_isPointer, q_isBlockPointer, vp_in_iff, Int32.lt_iff_toInt_lt, Int32.le_iff_toInt_le, Int32.reduceToInt] at c5 ⊢; omega)) ?_
    exact zg_vret dX0_takeOffline_30 rfl ⟨by decide, by decide⟩ rfl
  · refine zg_st (pc' := 30) (L' := [some (.inr 1), some (.inl p1), some (.inl p2), some (.inl p3)]) (S' := []) (M' := M) rfl rfl rfl rfl ?_
    exact zg_vret dX0_takeOffline_30 rfl ⟨by decide, by decide⟩ rfl
theorem dX0_outageOf_0 : decode cX0_outageOf 0 = .ok (.iload_n 1, 1) := by decide +kernel
theorem dX0_outageOf_1 : decode cX0_outageOf 1 = .ok (.iload_n 2, 1) := by decide +kernel
theorem dX0_outageOf_2 : decode cX0_outageOf 2 = .ok (.invokestatic 25, 3) := by decide +kernel
theorem dX0_outageOf_5 : decode cX0_outageOf 5 = .ok (.ifCond .eq 16, 3) := by decide +kernel
theorem dX0_outageOf_8 : decode cX0_outageOf 8 = .ok (.aload_n 0, 1) := by decide +kernel
theorem dX0_outageOf_9 : decode cX0_outageOf 9 = .ok (.getfield 21, 3) := by decide +kernel
theorem dX0_outageOf_12 : decode cX0_outageOf 12 = .ok (.iload_n 1, 1) := by decide +kernel
theorem dX0_outageOf_13 : decode cX0_outageOf 13 = .ok (.iconst 2, 1) := by decide +kernel
theorem dX0_outageOf_14 : decode cX0_outageOf 14 = .ok (.imul, 1) := by decide +kernel
theorem dX0_outageOf_15 : decode cX0_outageOf 15 = .ok (.iload_n 2, 1) := by decide +kernel
theorem dX0_outageOf_16 : decode cX0_outageOf 16 = .ok (.iadd, 1) := by decide +kernel
theorem dX0_outageOf_17 : decode cX0_outageOf 17 = .ok (.iaload, 1) := by decide +kernel
theorem dX0_outageOf_18 : decode cX0_outageOf 18 = .ok (.goto 4, 3) := by decide +kernel
theorem dX0_outageOf_21 : decode cX0_outageOf 21 = .ok (.iconst 0, 1) := by decide +kernel
theorem dX0_outageOf_22 : decode cX0_outageOf 22 = .ok (.ireturn, 1) := by decide +kernel
def f_X0_outageOf (p1 : Int32) (p2 : Int32) (M : Mem) : Int32 :=
  if (f_X4_isSideOfMirror p1 p2) then (M 9 ((p1 * 2) + p2).toNatClampNeg)
  else 0
set_option maxRecDepth 100000 in
set_option maxHeartbeats 4000000 in
theorem k_X0_outageOf (q : ZQ) (p1 : Int32) (p2 : Int32) (M : Mem) : Zc (zgX q) mX0_outageOf 0 0 [.inr 1, .inl p1, .inl p2] M (wI M (f_X0_outageOf p1 p2 M)) := by
  refine Zc.of (by decide) zi_X0_outageOf.1 (Nat.le_of_ble_eq_true rfl) rfl ?_
  show Zg _ _ _ _ _ _ (zlet (f_X0_outageOf p1 p2 M) (wI M)) _ _ _ _
  unfold f_X0_outageOf
  refine zg_iload_n (x := p1) dX0_outageOf_0 rfl ?_
  refine zg_iload_n (x := p2) dX0_outageOf_1 rfl ?_
  refine zg_cN1 (As := [.inl p1, .inl p2]) (S := []) (v := bI ((f_X4_isSideOfMirror p1 p2))) dX0_outageOf_2 zk_X0_25 (k_X4_isSideOfMirror q p1 p2 M) rfl ⟨by decide, by decide⟩ ⟨by decide, by decide⟩ rfl (Nat.le_of_ble_eq_true rfl) ?_
  refine zg_st (pc' := 5) (L' := [some (.inr 1), some (.inl p1), some (.inl p2)]) (S' := [.inl (bI ((f_X4_isSideOfMirror p1 p2)))]) (M' := M) rfl rfl rfl rfl ?_
  refine zg_ifbe (tgt := 21) dX0_outageOf_5 rfl (fun c5 => ?_) (fun c5 => ?_)
  · refine zg_st (pc' := 8) (L' := [some (.inr 1), some (.inl p1), some (.inl p2)]) (S' := []) (M' := M) rfl rfl rfl rfl ?_
    refine zg_aload_n (x := 1) dX0_outageOf_8 rfl ?_
    refine zg_getf (v := .inr 9) dX0_outageOf_9 zf_X0_21 rfl rfl rfl ?_
    refine zg_iload_n (x := p1) dX0_outageOf_12 rfl ?_
    refine zg_iconst (v := 2) dX0_outageOf_13 rfl ?_
    refine zg_imul dX0_outageOf_14 ?_
    refine zg_iload_n (x := p2) dX0_outageOf_15 rfl ?_
    refine zg_iadd dX0_outageOf_16 ?_
    refine zg_iald dX0_outageOf_17 rfl (z_ix2 (by simp only [q_isFile, q_isBlock, q_isBlockOfFile, q_isMirror, q_isSideOfMirror, q_isCell, q_isPlaceNumber, q_isCellOnSide, q_isPointer, q_isBlockPointer, vp_in_iff, Int32.lt_iff_toInt_lt, Int32.le_iff_toInt_le, Int32.reduceToInt] at c5 ⊢; omega) (by simp only [q_isFile, q_isBlock, q_isBlockOfFile, q_isMirror, q_isSideOfMirror, q_isCell, q_isPlaceNumber, q_isCellOnSide, q_isPointer, q_isBlockPointer, vp_in_iff, Int32.lt_iff_toInt_lt, Int32.le_iff_toInt_le, Int32.reduceToInt] at c5 ⊢; omega)) ?_
    refine zg_goto (tgt := 22) dX0_outageOf_18 rfl ?_
    refine zg_st (pc' := 22) (L' := [some (.inr 1), some (.inl p1), some (.inl p2)]) (S' := [.inl (M 9 ((p1 * 2) + p2).toNatClampNeg)]) (M' := M) rfl rfl rfl rfl ?_
    exact zg_iret dX0_outageOf_22 rfl rfl ⟨by decide, by decide⟩ rfl
  · refine zg_st (pc' := 21) (L' := [some (.inr 1), some (.inl p1), some (.inl p2)]) (S' := []) (M' := M) rfl rfl rfl rfl ?_
    refine zg_iconst (v := 0) dX0_outageOf_21 rfl ?_
    exact zg_iret dX0_outageOf_22 rfl rfl ⟨by decide, by decide⟩ rfl
theorem dX0_bringOnline_0 : decode cX0_bringOnline 0 = .ok (.iload_n 1, 1) := by decide +kernel
theorem dX0_bringOnline_1 : decode cX0_bringOnline 1 = .ok (.iload_n 2, 1) := by decide +kernel
theorem dX0_bringOnline_2 : decode cX0_bringOnline 2 = .ok (.invokestatic 25, 3) := by decide +kernel
theorem dX0_bringOnline_5 : decode cX0_bringOnline 5 = .ok (.ifCond .eq 14, 3) := by decide +kernel
theorem dX0_bringOnline_8 : decode cX0_bringOnline 8 = .ok (.aload_n 0, 1) := by decide +kernel
theorem dX0_bringOnline_9 : decode cX0_bringOnline 9 = .ok (.getfield 18, 3) := by decide +kernel
theorem dX0_bringOnline_12 : decode cX0_bringOnline 12 = .ok (.iload_n 1, 1) := by decide +kernel
theorem dX0_bringOnline_13 : decode cX0_bringOnline 13 = .ok (.iconst 2, 1) := by decide +kernel
theorem dX0_bringOnline_14 : decode cX0_bringOnline 14 = .ok (.imul, 1) := by decide +kernel
theorem dX0_bringOnline_15 : decode cX0_bringOnline 15 = .ok (.iload_n 2, 1) := by decide +kernel
theorem dX0_bringOnline_16 : decode cX0_bringOnline 16 = .ok (.iadd, 1) := by decide +kernel
theorem dX0_bringOnline_17 : decode cX0_bringOnline 17 = .ok (.iconst 0, 1) := by decide +kernel
theorem dX0_bringOnline_18 : decode cX0_bringOnline 18 = .ok (.bastore, 1) := by decide +kernel
theorem dX0_bringOnline_19 : decode cX0_bringOnline 19 = .ok (.return_, 1) := by decide +kernel
def f_X0_bringOnline (p1 : Int32) (p2 : Int32) (M : Mem) : Mem :=
  if (f_X4_isSideOfMirror p1 p2) then (mup M 8 ((p1 * 2) + p2).toNatClampNeg 0)
  else M
set_option maxRecDepth 100000 in
set_option maxHeartbeats 4000000 in
theorem k_X0_bringOnline (q : ZQ) (p1 : Int32) (p2 : Int32) (M : Mem) : Zc (zgX q) mX0_bringOnline 0 0 [.inr 1, .inl p1, .inl p2] M (wV (f_X0_bringOnline p1 p2 M)) := by
  refine Zc.of (by decide) zi_X0_bringOnline.1 (Nat.le_of_ble_eq_true rfl) rfl ?_
  show Zg _ _ _ _ _ _ (zlet (f_X0_bringOnline p1 p2 M) wV) _ _ _ _
  unfold f_X0_bringOnline
  refine zg_iload_n (x := p1) dX0_bringOnline_0 rfl ?_
  refine zg_iload_n (x := p2) dX0_bringOnline_1 rfl ?_
  refine zg_cN1 (As := [.inl p1, .inl p2]) (S := []) (v := bI ((f_X4_isSideOfMirror p1 p2))) dX0_bringOnline_2 zk_X0_25 (k_X4_isSideOfMirror q p1 p2 M) rfl ⟨by decide, by decide⟩ ⟨by decide, by decide⟩ rfl (Nat.le_of_ble_eq_true rfl) ?_
  refine zg_st (pc' := 5) (L' := [some (.inr 1), some (.inl p1), some (.inl p2)]) (S' := [.inl (bI ((f_X4_isSideOfMirror p1 p2)))]) (M' := M) rfl rfl rfl rfl ?_
  refine zg_ifbe (tgt := 19) dX0_bringOnline_5 rfl (fun c5 => ?_) (fun c5 => ?_)
  · refine zg_st (pc' := 8) (L' := [some (.inr 1), some (.inl p1), some (.inl p2)]) (S' := []) (M' := M) rfl rfl rfl rfl ?_
    refine zg_aload_n (x := 1) dX0_bringOnline_8 rfl ?_
    refine zg_getf (v := .inr 8) dX0_bringOnline_9 zf_X0_18 rfl rfl rfl ?_
    refine zg_iload_n (x := p1) dX0_bringOnline_12 rfl ?_
    refine zg_iconst (v := 2) dX0_bringOnline_13 rfl ?_
    refine zg_imul dX0_bringOnline_14 ?_
    refine zg_iload_n (x := p2) dX0_bringOnline_15 rfl ?_
    refine zg_iadd dX0_bringOnline_16 ?_
    refine zg_iconst (v := 0) dX0_bringOnline_17 rfl ?_
    refine zg_zast (v := 0) dX0_bringOnline_18 rfl (z_ix2 (by simp only [q_isFile, q_isBlock, q_isBlockOfFile, q_isMirror, q_isSideOfMirror, q_isCell, q_isPlaceNumber, q_isCellOnSide, q_isPointer, q_isBlockPointer, vp_in_iff, Int32.lt_iff_toInt_lt, Int32.le_iff_toInt_le, Int32.reduceToInt] at c5 ⊢; omega) (by simp only [q_isFile, q_isBlock, q_isBlockOfFile, q_isMirror, q_isSideOfMirror, q_isCell, q_isPlaceNumber, q_isCellOnSide, q_isPointer, q_isBlockPointer, vp_in_iff, Int32.lt_iff_toInt_lt, Int32.le_iff_toInt_le, Int32.reduceToInt] at c5 ⊢; omega)) rfl ?_
    exact zg_vret dX0_bringOnline_19 rfl ⟨by decide, by decide⟩ rfl
  · refine zg_st (pc' := 19) (L' := [some (.inr 1), some (.inl p1), some (.inl p2)]) (S' := []) (M' := M) rfl rfl rfl rfl ?_
    exact zg_vret dX0_bringOnline_19 rfl ⟨by decide, by decide⟩ rfl
theorem dX3_countPlaces_0 : decode cX3_countPlaces 0 = .ok (.aload_n 0, 1) := by decide +kernel
theorem dX3_countPlaces_1 : decode cX3_countPlaces 1 = .ok (.iload_n 1, 1) := by decide +kernel
theorem dX3_countPlaces_2 : decode cX3_countPlaces 2 = .ok (.invokevirtual 44, 3) := by decide +kernel
theorem dX3_countPlaces_5 : decode cX3_countPlaces 5 = .ok (.ifCond .eq 5, 3) := by decide +kernel
theorem dX3_countPlaces_8 : decode cX3_countPlaces 8 = .ok (.iconst 0, 1) := by decide +kernel
theorem dX3_countPlaces_9 : decode cX3_countPlaces 9 = .ok (.ireturn, 1) := by decide +kernel
theorem dX3_countPlaces_10 : decode cX3_countPlaces 10 = .ok (.aload_n 0, 1) := by decide +kernel
theorem dX3_countPlaces_11 : decode cX3_countPlaces 11 = .ok (.iload_n 1, 1) := by decide +kernel
theorem dX3_countPlaces_12 : decode cX3_countPlaces 12 = .ok (.iconst 1, 1) := by decide +kernel
theorem dX3_countPlaces_13 : decode cX3_countPlaces 13 = .ok (.invokevirtual 37, 3) := by decide +kernel
theorem dX3_countPlaces_16 : decode cX3_countPlaces 16 = .ok (.iconst (-1), 1) := by decide +kernel
theorem dX3_countPlaces_17 : decode cX3_countPlaces 17 = .ok (.if_icmp .ne 7, 3) := by decide +kernel
theorem dX3_countPlaces_20 : decode cX3_countPlaces 20 = .ok (.iconst 1, 1) := by decide +kernel
theorem dX3_countPlaces_21 : decode cX3_countPlaces 21 = .ok (.goto 4, 3) := by decide +kernel
theorem dX3_countPlaces_24 : decode cX3_countPlaces 24 = .ok (.iconst 2, 1) := by decide +kernel
theorem dX3_countPlaces_25 : decode cX3_countPlaces 25 = .ok (.ireturn, 1) := by decide +kernel
def f_X3_countPlaces (p1 : Int32) (M : Mem) : Int32 :=
  if (f_X3_isMissing p1 M) then 0
  else if ¬ (f_X3_placeOf p1 1 M) = (-1) then 2
  else 1
set_option maxRecDepth 100000 in
set_option maxHeartbeats 4000000 in
theorem k_X3_countPlaces (q : ZQ) (p1 : Int32) (M : Mem) : Zc (zgX q) mX3_countPlaces 0 0 [.inr 2, .inl p1] M (wI M (f_X3_countPlaces p1 M)) := by
  refine Zc.of (by decide) zi_X3_countPlaces.1 (Nat.le_of_ble_eq_true rfl) rfl ?_
  show Zg _ _ _ _ _ _ (zlet (f_X3_countPlaces p1 M) (wI M)) _ _ _ _
  unfold f_X3_countPlaces
  refine zg_aload_n (x := 2) dX3_countPlaces_0 rfl ?_
  refine zg_iload_n (x := p1) dX3_countPlaces_1 rfl ?_
  refine zg_cV1 (As := [.inl p1]) (S := []) (v := bI ((f_X3_isMissing p1 M))) dX3_countPlaces_2 zk_X3_44 (k_X3_isMissing q p1 M) rfl rfl ⟨by decide, by decide⟩ ⟨by decide, by decide⟩ rfl (Nat.le_of_ble_eq_true rfl) ?_
  refine zg_st (pc' := 5) (L' := [some (.inr 2), some (.inl p1)]) (S' := [.inl (bI ((f_X3_isMissing p1 M)))]) (M' := M) rfl rfl rfl rfl ?_
  refine zg_ifbe (tgt := 10) dX3_countPlaces_5 rfl (fun c5 => ?_) (fun c5 => ?_)
  · refine zg_st (pc' := 8) (L' := [some (.inr 2), some (.inl p1)]) (S' := []) (M' := M) rfl rfl rfl rfl ?_
    refine zg_iconst (v := 0) dX3_countPlaces_8 rfl ?_
    exact zg_iret dX3_countPlaces_9 rfl rfl ⟨by decide, by decide⟩ rfl
  · refine zg_st (pc' := 10) (L' := [some (.inr 2), some (.inl p1)]) (S' := []) (M' := M) rfl rfl rfl rfl ?_
    refine zg_aload_n (x := 2) dX3_countPlaces_10 rfl ?_
    refine zg_iload_n (x := p1) dX3_countPlaces_11 rfl ?_
    refine zg_iconst (v := 1) dX3_countPlaces_12 rfl ?_
    refine zg_cV1 (As := [.inl p1, .inl 1]) (S := []) (v := (f_X3_placeOf p1 1 M)) dX3_countPlaces_13 zk_X3_37 (k_X3_placeOf q p1 1 M) rfl rfl ⟨by decide, by decide⟩ ⟨by decide, by decide⟩ rfl (Nat.le_of_ble_eq_true rfl) ?_
    refine zg_st (pc' := 16) (L' := [some (.inr 2), some (.inl p1)]) (S' := [.inl (f_X3_placeOf p1 1 M)]) (M' := M) rfl rfl rfl rfl ?_
    refine zg_iconst (v := (-1)) dX3_countPlaces_16 rfl ?_
    refine zg_icmpz (tgt := 24) dX3_countPlaces_17 rfl rfl (fun c17 => ?_) (fun c17 => ?_)
    · refine zg_st (pc' := 24) (L' := [some (.inr 2), some (.inl p1)]) (S' := []) (M' := M) rfl rfl rfl rfl ?_
      refine zg_iconst (v := 2) dX3_countPlaces_24 rfl ?_
      exact zg_iret dX3_countPlaces_25 rfl rfl ⟨by decide, by decide⟩ rfl
    · refine zg_st (pc' := 20) (L' := [some (.inr 2), some (.inl p1)]) (S' := []) (M' := M) rfl rfl rfl rfl ?_
      refine zg_iconst (v := 1) dX3_countPlaces_20 rfl ?_
      refine zg_goto (tgt := 25) dX3_countPlaces_21 rfl ?_
      refine zg_st (pc' := 25) (L' := [some (.inr 2), some (.inl p1)]) (S' := [.inl 1]) (M' := M) rfl rfl rfl rfl ?_
      exact zg_iret dX3_countPlaces_25 rfl rfl ⟨by decide, by decide⟩ rfl
end
section
theorem dX1_begin_0 : decode cX1_begin 0 = .ok (.aload_n 0, 1) := by decide +kernel
theorem dX1_begin_1 : decode cX1_begin 1 = .ok (.getfield 18, 3) := by decide +kernel
theorem dX1_begin_4 : decode cX1_begin 4 = .ok (.iconst (-1), 1) := by decide +kernel
theorem dX1_begin_5 : decode cX1_begin 5 = .ok (.invokestatic 24, 3) := by decide +kernel
theorem dX1_begin_8 : decode cX1_begin 8 = .ok (.aload_n 0, 1) := by decide +kernel
theorem dX1_begin_9 : decode cX1_begin 9 = .ok (.getfield 21, 3) := by decide +kernel
theorem dX1_begin_12 : decode cX1_begin 12 = .ok (.iconst (-1), 1) := by decide +kernel
theorem dX1_begin_13 : decode cX1_begin 13 = .ok (.invokestatic 24, 3) := by decide +kernel
theorem dX1_begin_16 : decode cX1_begin 16 = .ok (.aload_n 0, 1) := by decide +kernel
theorem dX1_begin_17 : decode cX1_begin 17 = .ok (.getfield 15, 3) := by decide +kernel
theorem dX1_begin_20 : decode cX1_begin 20 = .ok (.iconst 0, 1) := by decide +kernel
theorem dX1_begin_21 : decode cX1_begin 21 = .ok (.invokestatic 24, 3) := by decide +kernel
theorem dX1_begin_24 : decode cX1_begin 24 = .ok (.iconst 0, 1) := by decide +kernel
theorem dX1_begin_25 : decode cX1_begin 25 = .ok (.istore_n 2, 1) := by decide +kernel
theorem dX1_begin_26 : decode cX1_begin 26 = .ok (.iload_n 2, 1) := by decide +kernel
theorem dX1_begin_27 : decode cX1_begin 27 = .ok (.iconst 3, 1) := by decide +kernel
theorem dX1_begin_28 : decode cX1_begin 28 = .ok (.if_icmp .ge 20, 3) := by decide +kernel
theorem dX1_begin_31 : decode cX1_begin 31 = .ok (.aload_n 0, 1) := by decide +kernel
theorem dX1_begin_32 : decode cX1_begin 32 = .ok (.getfield 9, 3) := by decide +kernel
theorem dX1_begin_35 : decode cX1_begin 35 = .ok (.iload_n 2, 1) := by decide +kernel
theorem dX1_begin_36 : decode cX1_begin 36 = .ok (.aload_n 1, 1) := by decide +kernel
theorem dX1_begin_37 : decode cX1_begin 37 = .ok (.iload_n 2, 1) := by decide +kernel
theorem dX1_begin_38 : decode cX1_begin 38 = .ok (.invokevirtual 30, 3) := by decide +kernel
theorem dX1_begin_41 : decode cX1_begin 41 = .ok (.iastore, 1) := by decide +kernel
theorem dX1_begin_42 : decode cX1_begin 42 = .ok (.iinc 2 1, 3) := by decide +kernel
theorem dX1_begin_45 : decode cX1_begin 45 = .ok (.goto (-19), 3) := by decide +kernel
theorem dX1_begin_48 : decode cX1_begin 48 = .ok (.return_, 1) := by decide +kernel
def b_X1_begin_26 (rec : Int32 → Mem → Int32 × Mem) (v2 : Int32) (N : Mem) : Int32 × Mem :=
  if 3 ≤ v2 then (v2, N)
  else rec (v2 + 1) (mup N 16 v2.toNatClampNeg (f_X0_countFree v2 N))
def l_X1_begin_26 : Nat → Int32 → Mem → Int32 × Mem
  | 0, v2, N => (v2, N)
  | n + 1, v2, N => b_X1_begin_26 (l_X1_begin_26 n) v2 N
set_option maxRecDepth 100000 in
set_option maxHeartbeats 4000000 in
theorem kl_X1_begin_26 (q : ZQ) {K : Int32 × Mem → ZR} (hx : ∀ e : Int32 × Mem, (0 : Int) ≤ e.1.toInt → Zg (zgX q) mX1_begin 0 0 0 0 (K e) 48 [some (.inr 4), some (.inr 1), some (.inl e.1)] [] e.2) :
    ∀ (n : Nat) (v2 : Int32) (N : Mem), (0 : Int) ≤ v2.toInt → ((3 : Int32).toInt - (v2 : Int32).toInt).toNat < n → Zg (zgX q) mX1_begin 0 0 0 0 (zlet (l_X1_begin_26 n v2 N) K) 26 [some (.inr 4), some (.inr 1), some (.inl v2)] [] N := by
  intro n
  induction n with
  | zero => intro v2 N hI hm; exact absurd hm (Nat.not_lt_zero _)
  | succ n ih =>
    intro v2 N hI hm
    show Zg _ _ _ _ _ _ (zlet (b_X1_begin_26 (l_X1_begin_26 n) v2 N) K) _ _ _ _
    unfold b_X1_begin_26
    refine zg_iload_n (x := v2) dX1_begin_26 rfl ?_
    refine zg_iconst (v := 3) dX1_begin_27 rfl ?_
    refine zg_icmpz (tgt := 48) dX1_begin_28 rfl rfl (fun c28 => ?_) (fun c28 => ?_)
    · refine zg_st (pc' := 48) (L' := [some (.inr 4), some (.inr 1), some (.inl v2)]) (S' := []) (M' := N) rfl rfl rfl rfl ?_
      refine zg_drop (L' := [some (.inr 4), some (.inr 1), some (.inl v2)]) ⟨rfl, rfl, rfl, trivial⟩ ?_
      exact hx (v2, N) hI
    · refine zg_st (pc' := 31) (L' := [some (.inr 4), some (.inr 1), some (.inl v2)]) (S' := []) (M' := N) rfl rfl rfl rfl ?_
      refine zg_aload_n (x := 4) dX1_begin_31 rfl ?_
      refine zg_getf (v := .inr 16) dX1_begin_32 zf_X1_9 rfl rfl rfl ?_
      refine zg_iload_n (x := v2) dX1_begin_35 rfl ?_
      refine zg_aload_n (x := 1) dX1_begin_36 rfl ?_
      refine zg_iload_n (x := v2) dX1_begin_37 rfl ?_
      refine zg_cV1 (As := [.inl v2]) (S := [.inl v2, .inr 16]) (v := (f_X0_countFree v2 N)) dX1_begin_38 zk_X1_30 (k_X0_countFree q v2 N) rfl rfl ⟨by decide, by decide⟩ ⟨by decide, by decide⟩ rfl (Nat.le_of_ble_eq_true rfl) ?_
      refine zg_st (pc' := 41) (L' := [some (.inr 4), some (.inr 1), some (.inl v2)]) (S' := [.inl (f_X0_countFree v2 N), .inl v2, .inr 16]) (M' := N) rfl rfl rfl rfl ?_
      refine zg_iast dX1_begin_41 rfl (by simp only [q_isFile, q_isBlock, q_isBlockOfFile, q_isMirror, q_isSideOfMirror, q_isCell, q_isPlaceNumber, q_isCellOnSide, q_isPointer, q_isBlockPointer, vp_in_iff, Int32.lt_iff_toInt_lt, Int32.le_iff_toInt_le, Int32.reduceToInt] at c28 hI ⊢; omega) ?_
      refine zg_iinc (v := (v2 + 1)) dX1_begin_42 rfl (by decide) rfl ?_
      refine zg_st (pc' := 45) (L' := [some (.inr 4), some (.inr 1), some (.inl (v2 + 1))]) (S' := []) (M' := (mup N 16 v2.toNatClampNeg (f_X0_countFree v2 N))) rfl rfl rfl rfl ?_
      refine zg_goto (tgt := 26) dX1_begin_45 rfl ?_
      refine zg_st (pc' := 26) (L' := [some (.inr 4), some (.inr 1), some (.inl (v2 + 1))]) (S' := []) (M' := (mup N 16 v2.toNatClampNeg (f_X0_countFree v2 N))) rfl rfl rfl rfl ?_
      refine zg_drop (L' := [some (.inr 4), some (.inr 1), some (.inl (v2 + 1))]) ⟨rfl, rfl, rfl, trivial⟩ ?_
      exact ih (v2 + 1) (mup N 16 v2.toNatClampNeg (f_X0_countFree v2 N)) (z_ge0 c28 hI) (z_up c28 hm)
def f_X1_begin (M : Mem) : Mem :=
  zlet (f_J7_fill_53178_18 (-1) M) (fun N1 =>
  zlet (f_J7_fill_53178_19 (-1) N1) (fun N2 =>
    zlet (f_J7_fill_53178_17 0 N2) (fun N3 =>
      zlet (l_X1_begin_26 4 0 N3) (fun s4 =>
        s4.2))))
set_option maxRecDepth 100000 in
set_option maxHeartbeats 4000000 in
theorem k_X1_begin (q : ZQ) (M : Mem) : Zc (zgX q) mX1_begin 0 0 [.inr 4, .inr 1] M (wV (f_X1_begin M)) := by
  refine Zc.of (by decide) zi_X1_begin.1 (Nat.le_of_ble_eq_true rfl) rfl ?_
  show Zg _ _ _ _ _ _ (zlet (f_X1_begin M) wV) _ _ _ _
  unfold f_X1_begin
  refine zg_aload_n (x := 4) dX1_begin_0 rfl ?_
  refine zg_getf (v := .inr 18) dX1_begin_1 zf_X1_18 rfl rfl rfl ?_
  refine zg_iconst (v := (-1)) dX1_begin_4 rfl ?_
  refine zg_cSV (As := [.inr 18, .inl (-1)]) (S := []) dX1_begin_5 zk_X1_24 (k_J7_fill_53178_18 q (-1) M) rfl ⟨by decide, by decide⟩ ⟨by decide, by decide⟩ rfl (Nat.le_of_ble_eq_true rfl) (fun N1 e_N1 => ?_)
  try dsimp only
  refine zg_st (pc' := 8) (L' := [some (.inr 4), some (.inr 1), none]) (S' := []) (M' := N1) rfl rfl rfl rfl ?_
  refine zg_aload_n (x := 4) dX1_begin_8 rfl ?_
  refine zg_getf (v := .inr 19) dX1_begin_9 zf_X1_21 rfl rfl rfl ?_
  refine zg_iconst (v := (-1)) dX1_begin_12 rfl ?_
  refine zg_cSV (As := [.inr 19, .inl (-1)]) (S := []) dX1_begin_13 zk_X1_24 (k_J7_fill_53178_19 q (-1) N1) rfl ⟨by decide, by decide⟩ ⟨by decide, by decide⟩ rfl (Nat.le_of_ble_eq_true rfl) (fun N2 e_N2 => ?_)
  try dsimp only
  refine zg_st (pc' := 16) (L' := [some (.inr 4), some (.inr 1), none]) (S' := []) (M' := N2) rfl rfl rfl rfl ?_
  refine zg_aload_n (x := 4) dX1_begin_16 rfl ?_
  refine zg_getf (v := .inr 17) dX1_begin_17 zf_X1_15 rfl rfl rfl ?_
  refine zg_iconst (v := 0) dX1_begin_20 rfl ?_
  refine zg_cSV (As := [.inr 17, .inl 0]) (S := []) dX1_begin_21 zk_X1_24 (k_J7_fill_53178_17 q 0 N2) rfl ⟨by decide, by decide⟩ ⟨by decide, by decide⟩ rfl (Nat.le_of_ble_eq_true rfl) (fun N3 e_N3 => ?_)
  try dsimp only
  refine zg_st (pc' := 24) (L' := [some (.inr 4), some (.inr 1), none]) (S' := []) (M' := N3) rfl rfl rfl rfl ?_
  refine zg_iconst (v := 0) dX1_begin_24 rfl ?_
  refine zg_istore_n dX1_begin_25 (by decide) ?_
  refine zg_st (pc' := 26) (L' := [some (.inr 4), some (.inr 1), some (.inl 0)]) (S' := []) (M' := N3) rfl rfl rfl rfl ?_
  refine zg_asc ?_
  refine zg_drop (L' := [some (.inr 4), some (.inr 1), some (.inl 0)]) ⟨rfl, rfl, rfl, trivial⟩ ?_
  refine kl_X1_begin_26 q  (fun s4 hI_s4 => ?_) 4 0 N3 (by decide) (by decide)
  try dsimp only [Sum.elim_inr]
  refine zg_st (pc' := 48) (L' := [some (.inr 4), some (.inr 1), some (.inl s4.1)]) (S' := []) (M' := s4.2) rfl rfl rfl rfl ?_
  exact zg_vret dX1_begin_48 rfl ⟨by decide, by decide⟩ rfl
theorem dX1_roomiestBeside_0 : decode cX1_roomiestBeside 0 = .ok (.iconst (-1), 1) := by decide +kernel
theorem dX1_roomiestBeside_1 : decode cX1_roomiestBeside 1 = .ok (.istore_n 2, 1) := by decide +kernel
theorem dX1_roomiestBeside_2 : decode cX1_roomiestBeside 2 = .ok (.iconst 0, 1) := by decide +kernel
theorem dX1_roomiestBeside_3 : decode cX1_roomiestBeside 3 = .ok (.istore_n 3, 1) := by decide +kernel
theorem dX1_roomiestBeside_4 : decode cX1_roomiestBeside 4 = .ok (.iconst 0, 1) := by decide +kernel
theorem dX1_roomiestBeside_5 : decode cX1_roomiestBeside 5 = .ok (.istore 4, 2) := by decide +kernel
theorem dX1_roomiestBeside_7 : decode cX1_roomiestBeside 7 = .ok (.iload 4, 2) := by decide +kernel
theorem dX1_roomiestBeside_9 : decode cX1_roomiestBeside 9 = .ok (.iconst 3, 1) := by decide +kernel
theorem dX1_roomiestBeside_10 : decode cX1_roomiestBeside 10 = .ok (.if_icmp .ge 37, 3) := by decide +kernel
theorem dX1_roomiestBeside_13 : decode cX1_roomiestBeside 13 = .ok (.iload 4, 2) := by decide +kernel
theorem dX1_roomiestBeside_15 : decode cX1_roomiestBeside 15 = .ok (.iload_n 1, 1) := by decide +kernel
theorem dX1_roomiestBeside_16 : decode cX1_roomiestBeside 16 = .ok (.if_icmp .eq 25, 3) := by decide +kernel
theorem dX1_roomiestBeside_19 : decode cX1_roomiestBeside 19 = .ok (.aload_n 0, 1) := by decide +kernel
theorem dX1_roomiestBeside_20 : decode cX1_roomiestBeside 20 = .ok (.getfield 9, 3) := by decide +kernel
theorem dX1_roomiestBeside_23 : decode cX1_roomiestBeside 23 = .ok (.iload 4, 2) := by decide +kernel
theorem dX1_roomiestBeside_25 : decode cX1_roomiestBeside 25 = .ok (.iaload, 1) := by decide +kernel
theorem dX1_roomiestBeside_26 : decode cX1_roomiestBeside 26 = .ok (.iload_n 3, 1) := by decide +kernel
theorem dX1_roomiestBeside_27 : decode cX1_roomiestBeside 27 = .ok (.if_icmp .le 14, 3) := by decide +kernel
theorem dX1_roomiestBeside_30 : decode cX1_roomiestBeside 30 = .ok (.iload 4, 2) := by decide +kernel
theorem dX1_roomiestBeside_32 : decode cX1_roomiestBeside 32 = .ok (.istore_n 2, 1) := by decide +kernel
theorem dX1_roomiestBeside_33 : decode cX1_roomiestBeside 33 = .ok (.aload_n 0, 1) := by decide +kernel
theorem dX1_roomiestBeside_34 : decode cX1_roomiestBeside 34 = .ok (.getfield 9, 3) := by decide +kernel
theorem dX1_roomiestBeside_37 : decode cX1_roomiestBeside 37 = .ok (.iload 4, 2) := by decide +kernel
theorem dX1_roomiestBeside_39 : decode cX1_roomiestBeside 39 = .ok (.iaload, 1) := by decide +kernel
theorem dX1_roomiestBeside_40 : decode cX1_roomiestBeside 40 = .ok (.istore_n 3, 1) := by decide +kernel
theorem dX1_roomiestBeside_41 : decode cX1_roomiestBeside 41 = .ok (.iinc 4 1, 3) := by decide +kernel
theorem dX1_roomiestBeside_44 : decode cX1_roomiestBeside 44 = .ok (.goto (-37), 3) := by decide +kernel
theorem dX1_roomiestBeside_47 : decode cX1_roomiestBeside 47 = .ok (.iload_n 2, 1) := by decide +kernel
theorem dX1_roomiestBeside_48 : decode cX1_roomiestBeside 48 = .ok (.ireturn, 1) := by decide +kernel
def b_X1_roomiestBeside_7 (x1 : Int32) (M : Mem) (rec : Int32 → Int32 → Int32 → Int32 × Int32 × Int32) (v2 : Int32) (v3 : Int32) (v4 : Int32) : Int32 × Int32 × Int32 :=
  if 3 ≤ v4 then (v2, v3, v4)
  else if v4 = x1 then rec v2 v3 (v4 + 1)
  else if (M 16 v4.toNatClampNeg) ≤ v3 then rec v2 v3 (v4 + 1)
  else rec v4 (M 16 v4.toNatClampNeg) (v4 + 1)
def l_X1_roomiestBeside_7 (x1 : Int32) (M : Mem) : Nat → Int32 → Int32 → Int32 → Int32 × Int32 × Int32
  | 0, v2, v3, v4 => (v2, v3, v4)
  | n + 1, v2, v3, v4 => b_X1_roomiestBeside_7 x1 M (l_X1_roomiestBeside_7 x1 M n) v2 v3 v4
set_option maxRecDepth 100000 in
set_option maxHeartbeats 4000000 in
theorem kl_X1_roomiestBeside_7 (q : ZQ) (x1 : Int32) (M : Mem) {K : Int32 × Int32 × Int32 → ZR} (hx : ∀ e : Int32 × Int32 × Int32, (0 : Int) ≤ e.2.2.toInt → Zg (zgX q) mX1_roomiestBeside 0 0 0 0 (K e) 47 [some (.inr 4), some (.inl x1), some (.inl e.1), some (.inl e.2.1), some (.inl e.2.2)] [] M) :
    ∀ (n : Nat) (v2 : Int32) (v3 : Int32) (v4 : Int32), (0 : Int) ≤ v4.toInt → ((3 : Int32).toInt - (v4 : Int32).toInt).toNat < n → Zg (zgX q) mX1_roomiestBeside 0 0 0 0 (zlet (l_X1_roomiestBeside_7 x1 M n v2 v3 v4) K) 7 [some (.inr 4), some (.inl x1), some (.inl v2), some (.inl v3), some (.inl v4)] [] M := by
  intro n
  induction n with
  | zero => intro v2 v3 v4 hI hm; exact absurd hm (Nat.not_lt_zero _)
  | succ n ih =>
    intro v2 v3 v4 hI hm
    show Zg _ _ _ _ _ _ (zlet (b_X1_roomiestBeside_7 x1 M (l_X1_roomiestBeside_7 x1 M n) v2 v3 v4) K) _ _ _ _
    unfold b_X1_roomiestBeside_7
    refine zg_iload (x := v4) dX1_roomiestBeside_7 rfl ?_
    refine zg_iconst (v := 3) dX1_roomiestBeside_9 rfl ?_
    refine zg_icmpz (tgt := 47) dX1_roomiestBeside_10 rfl rfl (fun c10 => ?_) (fun c10 => ?_)
    · refine zg_st (pc' := 47) (L' := [some (.inr 4), some (.inl x1), some (.inl v2), some (.inl v3), some (.inl v4)]) (S' := []) (M' := M) rfl rfl rfl rfl ?_
      refine zg_drop (L' := [some (.inr 4), some (.inl x1), some (.inl v2), some (.inl v3), some (.inl v4)]) ⟨rfl, rfl, rfl, rfl, rfl, trivial⟩ ?_
      exact hx (v2, v3, v4) hI
    · refine zg_st (pc' := 13) (L' := [some (.inr 4), some (.inl x1), some (.inl v2), some (.inl v3), some (.inl v4)]) (S' := []) (M' := M) rfl rfl rfl rfl ?_
      refine zg_iload (x := v4) dX1_roomiestBeside_13 rfl ?_
      refine zg_iload_n (x := x1) dX1_roomiestBeside_15 rfl ?_
      refine zg_icmpz (tgt := 41) dX1_roomiestBeside_16 rfl rfl (fun c16 => ?_) (fun c16 => ?_)
      · refine zg_st (pc' := 41) (L' := [some (.inr 4), some (.inl x1), some (.inl v2), some (.inl v3), some (.inl v4)]) (S' := []) (M' := M) rfl rfl rfl rfl ?_
        refine zg_iinc (v := (v4 + 1)) dX1_roomiestBeside_41 rfl (by decide) rfl ?_
        refine zg_st (pc' := 44) (L' := [some (.inr 4), some (.inl x1), some (.inl v2), some (.inl v3), some (.inl (v4 + 1))]) (S' := []) (M' := M) rfl rfl rfl rfl ?_
        refine zg_goto (tgt := 7) dX1_roomiestBeside_44 rfl ?_
        refine zg_st (pc' := 7) (L' := [some (.inr 4), some (.inl x1), some (.inl v2), some (.inl v3), some (.inl (v4 + 1))]) (S' := []) (M' := M) rfl rfl rfl rfl ?_
        refine zg_drop (L' := [some (.inr 4), some (.inl x1), some (.inl v2), some (.inl v3), some (.inl (v4 + 1))]) ⟨rfl, rfl, rfl, rfl, rfl, trivial⟩ ?_
        exact ih v2 v3 (v4 + 1) (z_ge0 c10 hI) (z_up c10 hm)
      · refine zg_st (pc' := 19) (L' := [some (.inr 4), some (.inl x1), some (.inl v2), some (.inl v3), some (.inl v4)]) (S' := []) (M' := M) rfl rfl rfl rfl ?_
        refine zg_aload_n (x := 4) dX1_roomiestBeside_19 rfl ?_
        refine zg_getf (v := .inr 16) dX1_roomiestBeside_20 zf_X1_9 rfl rfl rfl ?_
        refine zg_iload (x := v4) dX1_roomiestBeside_23 rfl ?_
        refine zg_iald dX1_roomiestBeside_25 rfl (by simp only [q_isFile, q_isBlock, q_isBlockOfFile, q_isMirror, q_isSideOfMirror, q_isCell, q_isPlaceNumber, q_isCellOnSide, q_isPointer, q_isBlockPointer, vp_in_iff, Int32.lt_iff_toInt_lt, Int32.le_iff_toInt_le, Int32.reduceToInt] at c10 c16 hI ⊢; omega) ?_
        refine zg_iload_n (x := v3) dX1_roomiestBeside_26 rfl ?_
        refine zg_icmpz (tgt := 41) dX1_roomiestBeside_27 rfl rfl (fun c27 => ?_) (fun c27 => ?_)
        · refine zg_st (pc' := 41) (L' := [some (.inr 4), some (.inl x1), some (.inl v2), some (.inl v3), some (.inl v4)]) (S' := []) (M' := M) rfl rfl rfl rfl ?_
          refine zg_iinc (v := (v4 + 1)) dX1_roomiestBeside_41 rfl (by decide) rfl ?_
          refine zg_st (pc' := 44) (L' := [some (.inr 4), some (.inl x1), some (.inl v2), some (.inl v3), some (.inl (v4 + 1))]) (S' := []) (M' := M) rfl rfl rfl rfl ?_
          refine zg_goto (tgt := 7) dX1_roomiestBeside_44 rfl ?_
          refine zg_st (pc' := 7) (L' := [some (.inr 4), some (.inl x1), some (.inl v2), some (.inl v3), some (.inl (v4 + 1))]) (S' := []) (M' := M) rfl rfl rfl rfl ?_
          refine zg_drop (L' := [some (.inr 4), some (.inl x1), some (.inl v2), some (.inl v3), some (.inl (v4 + 1))]) ⟨rfl, rfl, rfl, rfl, rfl, trivial⟩ ?_
          exact ih v2 v3 (v4 + 1) (z_ge0 c10 hI) (z_up c10 hm)
        · refine zg_st (pc' := 30) (L' := [some (.inr 4), some (.inl x1), some (.inl v2), some (.inl v3), some (.inl v4)]) (S' := []) (M' := M) rfl rfl rfl rfl ?_
          refine zg_iload (x := v4) dX1_roomiestBeside_30 rfl ?_
          refine zg_istore_n dX1_roomiestBeside_32 (by decide) ?_
          refine zg_st (pc' := 33) (L' := [some (.inr 4), some (.inl x1), some (.inl v4), some (.inl v3), some (.inl v4)]) (S' := []) (M' := M) rfl rfl rfl rfl ?_
          refine zg_aload_n (x := 4) dX1_roomiestBeside_33 rfl ?_
          refine zg_getf (v := .inr 16) dX1_roomiestBeside_34 zf_X1_9 rfl rfl rfl ?_
          refine zg_iload (x := v4) dX1_roomiestBeside_37 rfl ?_
          refine zg_iald dX1_roomiestBeside_39 rfl (by simp only [q_isFile, q_isBlock, q_isBlockOfFile, q_isMirror, q_isSideOfMirror, q_isCell, q_isPlaceNumber, q_isCellOnSide, q_isPointer, q_isBlockPointer, vp_in_iff, Int32.lt_iff_toInt_lt, Int32.le_iff_toInt_le, Int32.reduceToInt] at c10 c16 c27 hI ⊢; omega) ?_
          refine zg_istore_n dX1_roomiestBeside_40 (by decide) ?_
          refine zg_st (pc' := 41) (L' := [some (.inr 4), some (.inl x1), some (.inl v4), some (.inl (M 16 v4.toNatClampNeg)), some (.inl v4)]) (S' := []) (M' := M) rfl rfl rfl rfl ?_
          refine zg_iinc (v := (v4 + 1)) dX1_roomiestBeside_41 rfl (by decide) rfl ?_
          refine zg_st (pc' := 44) (L' := [some (.inr 4), some (.inl x1), some (.inl v4), some (.inl (M 16 v4.toNatClampNeg)), some (.inl (v4 + 1))]) (S' := []) (M' := M) rfl rfl rfl rfl ?_
          refine zg_goto (tgt := 7) dX1_roomiestBeside_44 rfl ?_
          refine zg_st (pc' := 7) (L' := [some (.inr 4), some (.inl x1), some (.inl v4), some (.inl (M 16 v4.toNatClampNeg)), some (.inl (v4 + 1))]) (S' := []) (M' := M) rfl rfl rfl rfl ?_
          refine zg_drop (L' := [some (.inr 4), some (.inl x1), some (.inl v4), some (.inl (M 16 v4.toNatClampNeg)), some (.inl (v4 + 1))]) ⟨rfl, rfl, rfl, rfl, rfl, trivial⟩ ?_
          exact ih v4 (M 16 v4.toNatClampNeg) (v4 + 1) (z_ge0 c10 hI) (z_up c10 hm)
def f_X1_roomiestBeside (p1 : Int32) (M : Mem) : Int32 :=
  zlet (l_X1_roomiestBeside_7 p1 M 4 (-1) 0 0) (fun s1 =>
  s1.1)
set_option maxRecDepth 100000 in
set_option maxHeartbeats 4000000 in
theorem k_X1_roomiestBeside (q : ZQ) (p1 : Int32) (M : Mem) : Zc (zgX q) mX1_roomiestBeside 0 0 [.inr 4, .inl p1] M (wI M (f_X1_roomiestBeside p1 M)) := by
  refine Zc.of (by decide) zi_X1_roomiestBeside.1 (Nat.le_of_ble_eq_true rfl) rfl ?_
  show Zg _ _ _ _ _ _ (zlet (f_X1_roomiestBeside p1 M) (wI M)) _ _ _ _
  unfold f_X1_roomiestBeside
  refine zg_iconst (v := (-1)) dX1_roomiestBeside_0 rfl ?_
  refine zg_istore_n dX1_roomiestBeside_1 (by decide) ?_
  refine zg_st (pc' := 2) (L' := [some (.inr 4), some (.inl p1), some (.inl (-1)), none, none]) (S' := []) (M' := M) rfl rfl rfl rfl ?_
  refine zg_iconst (v := 0) dX1_roomiestBeside_2 rfl ?_
  refine zg_istore_n dX1_roomiestBeside_3 (by decide) ?_
  refine zg_st (pc' := 4) (L' := [some (.inr 4), some (.inl p1), some (.inl (-1)), some (.inl 0), none]) (S' := []) (M' := M) rfl rfl rfl rfl ?_
  refine zg_iconst (v := 0) dX1_roomiestBeside_4 rfl ?_
  refine zg_istore dX1_roomiestBeside_5 (by decide) ?_
  refine zg_st (pc' := 7) (L' := [some (.inr 4), some (.inl p1), some (.inl (-1)), some (.inl 0), some (.inl 0)]) (S' := []) (M' := M) rfl rfl rfl rfl ?_
  refine zg_asc ?_
  refine zg_drop (L' := [some (.inr 4), some (.inl p1), some (.inl (-1)), some (.inl 0), some (.inl 0)]) ⟨rfl, rfl, rfl, rfl, rfl, trivial⟩ ?_
  refine kl_X1_roomiestBeside_7 q p1 M (fun s1 hI_s1 => ?_) 4 (-1) 0 0 (by decide) (by decide)
  try dsimp only [Sum.elim_inr]
  refine zg_st (pc' := 47) (L' := [some (.inr 4), some (.inl p1), some (.inl s1.1), some (.inl s1.2.1), some (.inl s1.2.2)]) (S' := []) (M' := M) rfl rfl rfl rfl ?_
  refine zg_iload_n (x := s1.1) dX1_roomiestBeside_47 rfl ?_
  exact zg_iret dX1_roomiestBeside_48 rfl rfl ⟨by decide, by decide⟩ rfl
theorem dX1_takeBeside_0 : decode cX1_takeBeside 0 = .ok (.aload_n 0, 1) := by decide +kernel
theorem dX1_takeBeside_1 : decode cX1_takeBeside 1 = .ok (.iload_n 2, 1) := by decide +kernel
theorem dX1_takeBeside_2 : decode cX1_takeBeside 2 = .ok (.invokevirtual 47, 3) := by decide +kernel
theorem dX1_takeBeside_5 : decode cX1_takeBeside 5 = .ok (.istore_n 3, 1) := by decide +kernel
theorem dX1_takeBeside_6 : decode cX1_takeBeside 6 = .ok (.iload_n 3, 1) := by decide +kernel
theorem dX1_takeBeside_7 : decode cX1_takeBeside 7 = .ok (.invokestatic 50, 3) := by decide +kernel
theorem dX1_takeBeside_10 : decode cX1_takeBeside 10 = .ok (.ifCond .ne 5, 3) := by decide +kernel
theorem dX1_takeBeside_13 : decode cX1_takeBeside 13 = .ok (.iconst (-1), 1) := by decide +kernel
theorem dX1_takeBeside_14 : decode cX1_takeBeside 14 = .ok (.ireturn, 1) := by decide +kernel
theorem dX1_takeBeside_15 : decode cX1_takeBeside 15 = .ok (.aload_n 0, 1) := by decide +kernel
theorem dX1_takeBeside_16 : decode cX1_takeBeside 16 = .ok (.getfield 15, 3) := by decide +kernel
theorem dX1_takeBeside_19 : decode cX1_takeBeside 19 = .ok (.iload_n 3, 1) := by decide +kernel
theorem dX1_takeBeside_20 : decode cX1_takeBeside 20 = .ok (.iaload, 1) := by decide +kernel
theorem dX1_takeBeside_21 : decode cX1_takeBeside 21 = .ok (.istore 4, 2) := by decide +kernel
theorem dX1_takeBeside_23 : decode cX1_takeBeside 23 = .ok (.iload 4, 2) := by decide +kernel
theorem dX1_takeBeside_25 : decode cX1_takeBeside 25 = .ok (.bipush 40, 2) := by decide +kernel
theorem dX1_takeBeside_27 : decode cX1_takeBeside 27 = .ok (.if_icmp .ge 22, 3) := by decide +kernel
theorem dX1_takeBeside_30 : decode cX1_takeBeside 30 = .ok (.aload_n 1, 1) := by decide +kernel
theorem dX1_takeBeside_31 : decode cX1_takeBeside 31 = .ok (.iload_n 3, 1) := by decide +kernel
theorem dX1_takeBeside_32 : decode cX1_takeBeside 32 = .ok (.iload 4, 2) := by decide +kernel
theorem dX1_takeBeside_34 : decode cX1_takeBeside 34 = .ok (.invokestatic 53, 3) := by decide +kernel
theorem dX1_takeBeside_37 : decode cX1_takeBeside 37 = .ok (.invokevirtual 57, 3) := by decide +kernel
theorem dX1_takeBeside_40 : decode cX1_takeBeside 40 = .ok (.ifCond .eq 9, 3) := by decide +kernel
theorem dX1_takeBeside_43 : decode cX1_takeBeside 43 = .ok (.iinc 4 1, 3) := by decide +kernel
theorem dX1_takeBeside_46 : decode cX1_takeBeside 46 = .ok (.goto (-23), 3) := by decide +kernel
theorem dX1_takeBeside_49 : decode cX1_takeBeside 49 = .ok (.iload 4, 2) := by decide +kernel
theorem dX1_takeBeside_51 : decode cX1_takeBeside 51 = .ok (.invokestatic 60, 3) := by decide +kernel
theorem dX1_takeBeside_54 : decode cX1_takeBeside 54 = .ok (.ifCond .ne 5, 3) := by decide +kernel
theorem dX1_takeBeside_57 : decode cX1_takeBeside 57 = .ok (.iconst (-1), 1) := by decide +kernel
theorem dX1_takeBeside_58 : decode cX1_takeBeside 58 = .ok (.ireturn, 1) := by decide +kernel
theorem dX1_takeBeside_59 : decode cX1_takeBeside 59 = .ok (.aload_n 0, 1) := by decide +kernel
theorem dX1_takeBeside_60 : decode cX1_takeBeside 60 = .ok (.getfield 15, 3) := by decide +kernel
theorem dX1_takeBeside_63 : decode cX1_takeBeside 63 = .ok (.iload_n 3, 1) := by decide +kernel
theorem dX1_takeBeside_64 : decode cX1_takeBeside 64 = .ok (.iload 4, 2) := by decide +kernel
theorem dX1_takeBeside_66 : decode cX1_takeBeside 66 = .ok (.iconst 1, 1) := by decide +kernel
theorem dX1_takeBeside_67 : decode cX1_takeBeside 67 = .ok (.iadd, 1) := by decide +kernel
theorem dX1_takeBeside_68 : decode cX1_takeBeside 68 = .ok (.iastore, 1) := by decide +kernel
theorem dX1_takeBeside_69 : decode cX1_takeBeside 69 = .ok (.aload_n 0, 1) := by decide +kernel
theorem dX1_takeBeside_70 : decode cX1_takeBeside 70 = .ok (.getfield 9, 3) := by decide +kernel
theorem dX1_takeBeside_73 : decode cX1_takeBeside 73 = .ok (.iload_n 3, 1) := by decide +kernel
theorem dX1_takeBeside_74 : decode cX1_takeBeside 74 = .ok (.dup2, 1) := by decide +kernel
theorem dX1_takeBeside_75 : decode cX1_takeBeside 75 = .ok (.iaload, 1) := by decide +kernel
theorem dX1_takeBeside_76 : decode cX1_takeBeside 76 = .ok (.iconst 1, 1) := by decide +kernel
theorem dX1_takeBeside_77 : decode cX1_takeBeside 77 = .ok (.isub, 1) := by decide +kernel
theorem dX1_takeBeside_78 : decode cX1_takeBeside 78 = .ok (.iastore, 1) := by decide +kernel
theorem dX1_takeBeside_79 : decode cX1_takeBeside 79 = .ok (.iload_n 3, 1) := by decide +kernel
theorem dX1_takeBeside_80 : decode cX1_takeBeside 80 = .ok (.iload 4, 2) := by decide +kernel
theorem dX1_takeBeside_82 : decode cX1_takeBeside 82 = .ok (.invokestatic 53, 3) := by decide +kernel
theorem dX1_takeBeside_85 : decode cX1_takeBeside 85 = .ok (.ireturn, 1) := by decide +kernel
def b_X1_takeBeside_23 (x3 : Int32) (M : Mem) (rec : Int32 → Int32) (v4 : Int32) : Int32 :=
  if 40 ≤ v4 then v4
  else if (f_X0_isUsed (f_X4_placeNumber x3 v4) M) then rec (v4 + 1)
  else v4
def l_X1_takeBeside_23 (x3 : Int32) (M : Mem) : Nat → Int32 → Int32
  | 0, v4 => v4
  | n + 1, v4 => b_X1_takeBeside_23 x3 M (l_X1_takeBeside_23 x3 M n) v4
set_option maxRecDepth 100000 in
set_option maxHeartbeats 4000000 in
theorem kl_X1_takeBeside_23 (q : ZQ) (x3 : Int32) (M : Mem) {K : Int32 → ZR} (hx : ∀ e : Int32, Zg (zgX q) mX1_takeBeside 0 0 0 0 (K e) 49 [some (.inr 4), some (.inr 1), none, some (.inl x3), some (.inl e)] [] M) :
    ∀ (n : Nat) (v4 : Int32), ((40 : Int32).toInt - (v4 : Int32).toInt).toNat < n → Zg (zgX q) mX1_takeBeside 0 0 0 0 (zlet (l_X1_takeBeside_23 x3 M n v4) K) 23 [some (.inr 4), some (.inr 1), none, some (.inl x3), some (.inl v4)] [] M := by
  intro n
  induction n with
  | zero => intro v4 hm; exact absurd hm (Nat.not_lt_zero _)
  | succ n ih =>
    intro v4 hm
    show Zg _ _ _ _ _ _ (zlet (b_X1_takeBeside_23 x3 M (l_X1_takeBeside_23 x3 M n) v4) K) _ _ _ _
    unfold b_X1_takeBeside_23
    refine zg_iload (x := v4) dX1_takeBeside_23 rfl ?_
    refine zg_bipush (v := 40) dX1_takeBeside_25 rfl ?_
    refine zg_icmpz (tgt := 49) dX1_takeBeside_27 rfl rfl (fun c27 => ?_) (fun c27 => ?_)
    · refine zg_st (pc' := 49) (L' := [some (.inr 4), some (.inr 1), none, some (.inl x3), some (.inl v4)]) (S' := []) (M' := M) rfl rfl rfl rfl ?_
      refine zg_drop (L' := [some (.inr 4), some (.inr 1), none, some (.inl x3), some (.inl v4)]) ⟨rfl, rfl, rfl, rfl, trivial⟩ ?_
      exact hx v4
    · refine zg_st (pc' := 30) (L' := [some (.inr 4), some (.inr 1), none, some (.inl x3), some (.inl v4)]) (S' := []) (M' := M) rfl rfl rfl rfl ?_
      refine zg_aload_n (x := 1) dX1_takeBeside_30 rfl ?_
      refine zg_iload_n (x := x3) dX1_takeBeside_31 rfl ?_
      refine zg_iload (x := v4) dX1_takeBeside_32 rfl ?_
      refine zg_cN1 (As := [.inl x3, .inl v4]) (S := [.inr 1]) (v := (f_X4_placeNumber x3 v4)) dX1_takeBeside_34 zk_X1_53 (k_X4_placeNumber q x3 v4 M) rfl ⟨by decide, by decide⟩ ⟨by decide, by decide⟩ rfl (Nat.le_of_ble_eq_true rfl) ?_
      refine zg_st (pc' := 37) (L' := [some (.inr 4), some (.inr 1), none, some (.inl x3), some (.inl v4)]) (S' := [.inl (f_X4_placeNumber x3 v4), .inr 1]) (M' := M) rfl rfl rfl rfl ?_
      refine zg_cV1 (As := [.inl (f_X4_placeNumber x3 v4)]) (S := []) (v := bI ((f_X0_isUsed (f_X4_placeNumber x3 v4) M))) dX1_takeBeside_37 zk_X1_57 (k_X0_isUsed q (f_X4_placeNumber x3 v4) M) rfl rfl ⟨by decide, by decide⟩ ⟨by decide, by decide⟩ rfl (Nat.le_of_ble_eq_true rfl) ?_
      refine zg_st (pc' := 40) (L' := [some (.inr 4), some (.inr 1), none, some (.inl x3), some (.inl v4)]) (S' := [.inl (bI ((f_X0_isUsed (f_X4_placeNumber x3 v4) M)))]) (M' := M) rfl rfl rfl rfl ?_
      refine zg_ifbe (tgt := 49) dX1_takeBeside_40 rfl (fun c40 => ?_) (fun c40 => ?_)
      · refine zg_st (pc' := 43) (L' := [some (.inr 4), some (.inr 1), none, some (.inl x3), some (.inl v4)]) (S' := []) (M' := M) rfl rfl rfl rfl ?_
        refine zg_iinc (v := (v4 + 1)) dX1_takeBeside_43 rfl (by decide) rfl ?_
        refine zg_st (pc' := 46) (L' := [some (.inr 4), some (.inr 1), none, some (.inl x3), some (.inl (v4 + 1))]) (S' := []) (M' := M) rfl rfl rfl rfl ?_
        refine zg_goto (tgt := 23) dX1_takeBeside_46 rfl ?_
        refine zg_st (pc' := 23) (L' := [some (.inr 4), some (.inr 1), none, some (.inl x3), some (.inl (v4 + 1))]) (S' := []) (M' := M) rfl rfl rfl rfl ?_
        refine zg_drop (L' := [some (.inr 4), some (.inr 1), none, some (.inl x3), some (.inl (v4 + 1))]) ⟨rfl, rfl, rfl, rfl, trivial⟩ ?_
        exact ih (v4 + 1) (z_up c27 hm)
      · refine zg_st (pc' := 49) (L' := [some (.inr 4), some (.inr 1), none, some (.inl x3), some (.inl v4)]) (S' := []) (M' := M) rfl rfl rfl rfl ?_
        refine zg_drop (L' := [some (.inr 4), some (.inr 1), none, some (.inl x3), some (.inl v4)]) ⟨rfl, rfl, rfl, rfl, trivial⟩ ?_
        exact hx v4
def f_X1_takeBeside (p2 : Int32) (M : Mem) : (Int32 × Mem) :=
  if (f_X4_isMirror (f_X1_roomiestBeside p2 M)) then zlet (l_X1_takeBeside_23 (f_X1_roomiestBeside p2 M) M (((40 : Int32).toInt - ((M 17 (f_X1_roomiestBeside p2 M).toNatClampNeg) : Int32).toInt).toNat + 1) (M 17 (f_X1_roomiestBeside p2 M).toNatClampNeg)) (fun s1 =>
    if (f_X4_isCell s1) then ((f_X4_placeNumber (f_X1_roomiestBeside p2 M) s1), (mup (mup M 17 (f_X1_roomiestBeside p2 M).toNatClampNeg (s1 + 1)) 16 (f_X1_roomiestBeside p2 M).toNatClampNeg (((mup M 17 (f_X1_roomiestBeside p2 M).toNatClampNeg (s1 + 1)) 16 (f_X1_roomiestBeside p2 M).toNatClampNeg) - 1)))
      else ((-1), M))
  else ((-1), M)
set_option maxRecDepth 100000 in
set_option maxHeartbeats 4000000 in
theorem k_X1_takeBeside (q : ZQ) (p2 : Int32) (M : Mem) : Zc (zgX q) mX1_takeBeside 0 0 [.inr 4, .inr 1, .inl p2] M (wIM (f_X1_takeBeside p2 M)) := by
  refine Zc.of (by decide) zi_X1_takeBeside.1 (Nat.le_of_ble_eq_true rfl) rfl ?_
  show Zg _ _ _ _ _ _ (zlet (f_X1_takeBeside p2 M) wIM) _ _ _ _
  unfold f_X1_takeBeside
  refine zg_aload_n (x := 4) dX1_takeBeside_0 rfl ?_
  refine zg_iload_n (x := p2) dX1_takeBeside_1 rfl ?_
  refine zg_cV1 (As := [.inl p2]) (S := []) (v := (f_X1_roomiestBeside p2 M)) dX1_takeBeside_2 zk_X1_47 (k_X1_roomiestBeside q p2 M) rfl rfl ⟨by decide, by decide⟩ ⟨by decide, by decide⟩ rfl (Nat.le_of_ble_eq_true rfl) ?_
  refine zg_st (pc' := 5) (L' := [some (.inr 4), some (.inr 1), some (.inl p2), none, none]) (S' := [.inl (f_X1_roomiestBeside p2 M)]) (M' := M) rfl rfl rfl rfl ?_
  refine zg_istore_n dX1_takeBeside_5 (by decide) ?_
  refine zg_st (pc' := 6) (L' := [some (.inr 4), some (.inr 1), some (.inl p2), some (.inl (f_X1_roomiestBeside p2 M)), none]) (S' := []) (M' := M) rfl rfl rfl rfl ?_
  refine zg_iload_n (x := (f_X1_roomiestBeside p2 M)) dX1_takeBeside_6 rfl ?_
  refine zg_cN1 (As := [.inl (f_X1_roomiestBeside p2 M)]) (S := []) (v := bI ((f_X4_isMirror (f_X1_roomiestBeside p2 M)))) dX1_takeBeside_7 zk_X1_50 (k_X4_isMirror q (f_X1_roomiestBeside p2 M) M) rfl ⟨by decide, by decide⟩ ⟨by decide, by decide⟩ rfl (Nat.le_of_ble_eq_true rfl) ?_
  refine zg_st (pc' := 10) (L' := [some (.inr 4), some (.inr 1), some (.inl p2), some (.inl (f_X1_roomiestBeside p2 M)), none]) (S' := [.inl (bI ((f_X4_isMirror (f_X1_roomiestBeside p2 M))))]) (M' := M) rfl rfl rfl rfl ?_
  refine zg_ifbn (tgt := 15) dX1_takeBeside_10 rfl (fun c10 => ?_) (fun c10 => ?_)
  · refine zg_st (pc' := 15) (L' := [some (.inr 4), some (.inr 1), some (.inl p2), some (.inl (f_X1_roomiestBeside p2 M)), none]) (S' := []) (M' := M) rfl rfl rfl rfl ?_
    refine zg_aload_n (x := 4) dX1_takeBeside_15 rfl ?_
    refine zg_getf (v := .inr 17) dX1_takeBeside_16 zf_X1_15 rfl rfl rfl ?_
    refine zg_iload_n (x := (f_X1_roomiestBeside p2 M)) dX1_takeBeside_19 rfl ?_
    refine zg_iald dX1_takeBeside_20 rfl (by simp only [q_isFile, q_isBlock, q_isBlockOfFile, q_isMirror, q_isSideOfMirror, q_isCell, q_isPlaceNumber, q_isCellOnSide, q_isPointer, q_isBlockPointer, vp_in_iff, Int32.lt_iff_toInt_lt, Int32.le_iff_toInt_le, Int32.reduceToInt] at c10 ⊢; omega) ?_
    refine zg_istore dX1_takeBeside_21 (by decide) ?_
    refine zg_st (pc' := 23) (L' := [some (.inr 4), some (.inr 1), some (.inl p2), some (.inl (f_X1_roomiestBeside p2 M)), some (.inl (M 17 (f_X1_roomiestBeside p2 M).toNatClampNeg))]) (S' := []) (M' := M) rfl rfl rfl rfl ?_
    refine zg_asc ?_
    refine zg_drop (L' := [some (.inr 4), some (.inr 1), none, some (.inl (f_X1_roomiestBeside p2 M)), some (.inl (M 17 (f_X1_roomiestBeside p2 M).toNatClampNeg))]) ⟨rfl, rfl, rfl, rfl, trivial⟩ ?_
    refine kl_X1_takeBeside_23 q (f_X1_roomiestBeside p2 M) M (fun s1 => ?_) (((40 : Int32).toInt - ((M 17 (f_X1_roomiestBeside p2 M).toNatClampNeg) : Int32).toInt).toNat + 1) (M 17 (f_X1_roomiestBeside p2 M).toNatClampNeg) (Nat.lt_succ_self _)
    try dsimp only [Sum.elim_inr]
    refine zg_st (pc' := 49) (L' := [some (.inr 4), some (.inr 1), none, some (.inl (f_X1_roomiestBeside p2 M)), some (.inl s1)]) (S' := []) (M' := M) rfl rfl rfl rfl ?_
    refine zg_iload (x := s1) dX1_takeBeside_49 rfl ?_
    refine zg_cN1 (As := [.inl s1]) (S := []) (v := bI ((f_X4_isCell s1))) dX1_takeBeside_51 zk_X1_60 (k_X4_isCell q s1 M) rfl ⟨by decide, by decide⟩ ⟨by decide, by decide⟩ rfl (Nat.le_of_ble_eq_true rfl) ?_
    refine zg_st (pc' := 54) (L' := [some (.inr 4), some (.inr 1), none, some (.inl (f_X1_roomiestBeside p2 M)), some (.inl s1)]) (S' := [.inl (bI ((f_X4_isCell s1)))]) (M' := M) rfl rfl rfl rfl ?_
    refine zg_ifbn (tgt := 59) dX1_takeBeside_54 rfl (fun c54 => ?_) (fun c54 => ?_)
    · refine zg_st (pc' := 59) (L' := [some (.inr 4), some (.inr 1), none, some (.inl (f_X1_roomiestBeside p2 M)), some (.inl s1)]) (S' := []) (M' := M) rfl rfl rfl rfl ?_
      refine zg_aload_n (x := 4) dX1_takeBeside_59 rfl ?_
      refine zg_getf (v := .inr 17) dX1_takeBeside_60 zf_X1_15 rfl rfl rfl ?_
      refine zg_iload_n (x := (f_X1_roomiestBeside p2 M)) dX1_takeBeside_63 rfl ?_
      refine zg_iload (x := s1) dX1_takeBeside_64 rfl ?_
      refine zg_iconst (v := 1) dX1_takeBeside_66 rfl ?_
      refine zg_iadd dX1_takeBeside_67 ?_
      refine zg_iast dX1_takeBeside_68 rfl (by simp only [q_isFile, q_isBlock, q_isBlockOfFile, q_isMirror, q_isSideOfMirror, q_isCell, q_isPlaceNumber, q_isCellOnSide, q_isPointer, q_isBlockPointer, vp_in_iff, Int32.lt_iff_toInt_lt, Int32.le_iff_toInt_le, Int32.reduceToInt] at c10 c54 ⊢; omega) ?_
      refine zg_aload_n (x := 4) dX1_takeBeside_69 rfl ?_
      refine zg_getf (v := .inr 16) dX1_takeBeside_70 zf_X1_9 rfl rfl rfl ?_
      refine zg_iload_n (x := (f_X1_roomiestBeside p2 M)) dX1_takeBeside_73 rfl ?_
      refine zg_dup2 dX1_takeBeside_74 ?_
      refine zg_iald dX1_takeBeside_75 rfl (by simp only [q_isFile, q_isBlock, q_isBlockOfFile, q_isMirror, q_isSideOfMirror, q_isCell, q_isPlaceNumber, q_isCellOnSide, q_isPointer, q_isBlockPointer, vp_in_iff, Int32.lt_iff_toInt_lt, Int32.le_iff_toInt_le, Int32.reduceToInt] at c10 c54 ⊢; omega) ?_
      refine zg_iconst (v := 1) dX1_takeBeside_76 rfl ?_
      refine zg_isub dX1_takeBeside_77 ?_
      refine zg_iast dX1_takeBeside_78 rfl (by simp only [q_isFile, q_isBlock, q_isBlockOfFile, q_isMirror, q_isSideOfMirror, q_isCell, q_isPlaceNumber, q_isCellOnSide, q_isPointer, q_isBlockPointer, vp_in_iff, Int32.lt_iff_toInt_lt, Int32.le_iff_toInt_le, Int32.reduceToInt] at c10 c54 ⊢; omega) ?_
      refine zg_iload_n (x := (f_X1_roomiestBeside p2 M)) dX1_takeBeside_79 rfl ?_
      refine zg_iload (x := s1) dX1_takeBeside_80 rfl ?_
      refine zg_cN1 (As := [.inl (f_X1_roomiestBeside p2 M), .inl s1]) (S := []) (v := (f_X4_placeNumber (f_X1_roomiestBeside p2 M) s1)) dX1_takeBeside_82 zk_X1_53 (k_X4_placeNumber q (f_X1_roomiestBeside p2 M) s1 (mup (mup M 17 (f_X1_roomiestBeside p2 M).toNatClampNeg (s1 + 1)) 16 (f_X1_roomiestBeside p2 M).toNatClampNeg (((mup M 17 (f_X1_roomiestBeside p2 M).toNatClampNeg (s1 + 1)) 16 (f_X1_roomiestBeside p2 M).toNatClampNeg) - 1))) rfl ⟨by decide, by decide⟩ ⟨by decide, by decide⟩ rfl (Nat.le_of_ble_eq_true rfl) ?_
      refine zg_st (pc' := 85) (L' := [some (.inr 4), some (.inr 1), none, some (.inl (f_X1_roomiestBeside p2 M)), some (.inl s1)]) (S' := [.inl (f_X4_placeNumber (f_X1_roomiestBeside p2 M) s1)]) (M' := (mup (mup M 17 (f_X1_roomiestBeside p2 M).toNatClampNeg (s1 + 1)) 16 (f_X1_roomiestBeside p2 M).toNatClampNeg (((mup M 17 (f_X1_roomiestBeside p2 M).toNatClampNeg (s1 + 1)) 16 (f_X1_roomiestBeside p2 M).toNatClampNeg) - 1))) rfl rfl rfl rfl ?_
      exact zg_iret dX1_takeBeside_85 rfl rfl ⟨by decide, by decide⟩ rfl
    · refine zg_st (pc' := 57) (L' := [some (.inr 4), some (.inr 1), none, some (.inl (f_X1_roomiestBeside p2 M)), some (.inl s1)]) (S' := []) (M' := M) rfl rfl rfl rfl ?_
      refine zg_iconst (v := (-1)) dX1_takeBeside_57 rfl ?_
      exact zg_iret dX1_takeBeside_58 rfl rfl ⟨by decide, by decide⟩ rfl
  · refine zg_st (pc' := 13) (L' := [some (.inr 4), some (.inr 1), some (.inl p2), some (.inl (f_X1_roomiestBeside p2 M)), none]) (S' := []) (M' := M) rfl rfl rfl rfl ?_
    refine zg_iconst (v := (-1)) dX1_takeBeside_13 rfl ?_
    exact zg_iret dX1_takeBeside_14 rfl rfl ⟨by decide, by decide⟩ rfl
theorem dX1_choose_0 : decode cX1_choose 0 = .ok (.iload_n 2, 1) := by decide +kernel
theorem dX1_choose_1 : decode cX1_choose 1 = .ok (.invokestatic 36, 3) := by decide +kernel
theorem dX1_choose_4 : decode cX1_choose 4 = .ok (.ifCond .ne 5, 3) := by decide +kernel
theorem dX1_choose_7 : decode cX1_choose 7 = .ok (.iconst 0, 1) := by decide +kernel
theorem dX1_choose_8 : decode cX1_choose 8 = .ok (.ireturn, 1) := by decide +kernel
theorem dX1_choose_9 : decode cX1_choose 9 = .ok (.aload_n 0, 1) := by decide +kernel
theorem dX1_choose_10 : decode cX1_choose 10 = .ok (.aload_n 1, 1) := by decide +kernel
theorem dX1_choose_11 : decode cX1_choose 11 = .ok (.iconst (-1), 1) := by decide +kernel
theorem dX1_choose_12 : decode cX1_choose 12 = .ok (.invokevirtual 40, 3) := by decide +kernel
theorem dX1_choose_15 : decode cX1_choose 15 = .ok (.istore 4, 2) := by decide +kernel
theorem dX1_choose_17 : decode cX1_choose 17 = .ok (.aload_n 0, 1) := by decide +kernel
theorem dX1_choose_18 : decode cX1_choose 18 = .ok (.getfield 18, 3) := by decide +kernel
theorem dX1_choose_21 : decode cX1_choose 21 = .ok (.iload_n 2, 1) := by decide +kernel
theorem dX1_choose_22 : decode cX1_choose 22 = .ok (.iload 4, 2) := by decide +kernel
theorem dX1_choose_24 : decode cX1_choose 24 = .ok (.iastore, 1) := by decide +kernel
theorem dX1_choose_25 : decode cX1_choose 25 = .ok (.iload 4, 2) := by decide +kernel
theorem dX1_choose_27 : decode cX1_choose 27 = .ok (.iconst (-1), 1) := by decide +kernel
theorem dX1_choose_28 : decode cX1_choose 28 = .ok (.if_icmp .eq 8, 3) := by decide +kernel
theorem dX1_choose_31 : decode cX1_choose 31 = .ok (.iload_n 3, 1) := by decide +kernel
theorem dX1_choose_32 : decode cX1_choose 32 = .ok (.iconst 2, 1) := by decide +kernel
theorem dX1_choose_33 : decode cX1_choose 33 = .ok (.if_icmp .ge 15, 3) := by decide +kernel
theorem dX1_choose_36 : decode cX1_choose 36 = .ok (.iload 4, 2) := by decide +kernel
theorem dX1_choose_38 : decode cX1_choose 38 = .ok (.iconst (-1), 1) := by decide +kernel
theorem dX1_choose_39 : decode cX1_choose 39 = .ok (.if_icmp .eq 7, 3) := by decide +kernel
theorem dX1_choose_42 : decode cX1_choose 42 = .ok (.iconst 1, 1) := by decide +kernel
theorem dX1_choose_43 : decode cX1_choose 43 = .ok (.goto 4, 3) := by decide +kernel
theorem dX1_choose_46 : decode cX1_choose 46 = .ok (.iconst 0, 1) := by decide +kernel
theorem dX1_choose_47 : decode cX1_choose 47 = .ok (.ireturn, 1) := by decide +kernel
theorem dX1_choose_48 : decode cX1_choose 48 = .ok (.aload_n 0, 1) := by decide +kernel
theorem dX1_choose_49 : decode cX1_choose 49 = .ok (.getfield 21, 3) := by decide +kernel
theorem dX1_choose_52 : decode cX1_choose 52 = .ok (.iload_n 2, 1) := by decide +kernel
theorem dX1_choose_53 : decode cX1_choose 53 = .ok (.aload_n 0, 1) := by decide +kernel
theorem dX1_choose_54 : decode cX1_choose 54 = .ok (.aload_n 1, 1) := by decide +kernel
theorem dX1_choose_55 : decode cX1_choose 55 = .ok (.iload 4, 2) := by decide +kernel
theorem dX1_choose_57 : decode cX1_choose 57 = .ok (.invokestatic 44, 3) := by decide +kernel
theorem dX1_choose_60 : decode cX1_choose 60 = .ok (.invokevirtual 40, 3) := by decide +kernel
theorem dX1_choose_63 : decode cX1_choose 63 = .ok (.iastore, 1) := by decide +kernel
theorem dX1_choose_64 : decode cX1_choose 64 = .ok (.aload_n 0, 1) := by decide +kernel
theorem dX1_choose_65 : decode cX1_choose 65 = .ok (.getfield 21, 3) := by decide +kernel
theorem dX1_choose_68 : decode cX1_choose 68 = .ok (.iload_n 2, 1) := by decide +kernel
theorem dX1_choose_69 : decode cX1_choose 69 = .ok (.iaload, 1) := by decide +kernel
theorem dX1_choose_70 : decode cX1_choose 70 = .ok (.iconst (-1), 1) := by decide +kernel
theorem dX1_choose_71 : decode cX1_choose 71 = .ok (.if_icmp .eq 7, 3) := by decide +kernel
theorem dX1_choose_74 : decode cX1_choose 74 = .ok (.iconst 1, 1) := by decide +kernel
theorem dX1_choose_75 : decode cX1_choose 75 = .ok (.goto 4, 3) := by decide +kernel
theorem dX1_choose_78 : decode cX1_choose 78 = .ok (.iconst 0, 1) := by decide +kernel
theorem dX1_choose_79 : decode cX1_choose 79 = .ok (.ireturn, 1) := by decide +kernel
def f_X1_choose (p2 : Int32) (p3 : Int32) (M : Mem) : (Bool × Mem) :=
  if (f_X4_isPointer p2) then zlet (f_X1_takeBeside (-1) M) (fun q1 =>
    if q1.1 = (-1) then if q1.1 = (-1) then (false, (mup q1.2 18 p2.toNatClampNeg q1.1))
        else (true, (mup q1.2 18 p2.toNatClampNeg q1.1))
      else if 2 ≤ p3 then zlet (f_X1_takeBeside (f_X4_mirrorOf q1.1) (mup q1.2 18 p2.toNatClampNeg q1.1)) (fun q2 =>
        if ((mup q2.2 19 p2.toNatClampNeg q2.1) 19 p2.toNatClampNeg) = (-1) then (false, (mup q2.2 19 p2.toNatClampNeg q2.1))
          else (true, (mup q2.2 19 p2.toNatClampNeg q2.1)))
      else if q1.1 = (-1) then (false, (mup q1.2 18 p2.toNatClampNeg q1.1))
      else (true, (mup q1.2 18 p2.toNatClampNeg q1.1)))
  else (false, M)
set_option maxRecDepth 100000 in
set_option maxHeartbeats 4000000 in
theorem k_X1_choose (q : ZQ) (p2 : Int32) (p3 : Int32) (M : Mem) : Zc (zgX q) mX1_choose 0 0 [.inr 4, .inr 1, .inl p2, .inl p3] M (wBM (f_X1_choose p2 p3 M)) := by
  refine Zc.of (by decide) zi_X1_choose.1 (Nat.le_of_ble_eq_true rfl) rfl ?_
  show Zg _ _ _ _ _ _ (zlet (f_X1_choose p2 p3 M) wBM) _ _ _ _
  unfold f_X1_choose
  refine zg_iload_n (x := p2) dX1_choose_0 rfl ?_
  refine zg_cN1 (As := [.inl p2]) (S := []) (v := bI ((f_X4_isPointer p2))) dX1_choose_1 zk_X1_36 (k_X4_isPointer q p2 M) rfl ⟨by decide, by decide⟩ ⟨by decide, by decide⟩ rfl (Nat.le_of_ble_eq_true rfl) ?_
  refine zg_st (pc' := 4) (L' := [some (.inr 4), some (.inr 1), some (.inl p2), some (.inl p3), none]) (S' := [.inl (bI ((f_X4_isPointer p2)))]) (M' := M) rfl rfl rfl rfl ?_
  refine zg_ifbn (tgt := 9) dX1_choose_4 rfl (fun c4 => ?_) (fun c4 => ?_)
  · refine zg_st (pc' := 9) (L' := [some (.inr 4), some (.inr 1), some (.inl p2), some (.inl p3), none]) (S' := []) (M' := M) rfl rfl rfl rfl ?_
    refine zg_aload_n (x := 4) dX1_choose_9 rfl ?_
    refine zg_aload_n (x := 1) dX1_choose_10 rfl ?_
    refine zg_iconst (v := (-1)) dX1_choose_11 rfl ?_
    refine zg_cVIM (As := [.inr 1, .inl (-1)]) (S := []) dX1_choose_12 zk_X1_40 (k_X1_takeBeside q (-1) M) rfl rfl ⟨by decide, by decide⟩ ⟨by decide, by decide⟩ rfl (Nat.le_of_ble_eq_true rfl) (fun q1 e_q1 => ?_)
    try dsimp only
    refine zg_st (pc' := 15) (L' := [some (.inr 4), some (.inr 1), some (.inl p2), some (.inl p3), none]) (S' := [.inl q1.1]) (M' := q1.2) rfl rfl rfl rfl ?_
    refine zg_istore dX1_choose_15 (by decide) ?_
    refine zg_st (pc' := 17) (L' := [some (.inr 4), some (.inr 1), some (.inl p2), some (.inl p3), some (.inl q1.1)]) (S' := []) (M' := q1.2) rfl rfl rfl rfl ?_
    refine zg_aload_n (x := 4) dX1_choose_17 rfl ?_
    refine zg_getf (v := .inr 18) dX1_choose_18 zf_X1_18 rfl rfl rfl ?_
    refine zg_iload_n (x := p2) dX1_choose_21 rfl ?_
    refine zg_iload (x := q1.1) dX1_choose_22 rfl ?_
    refine zg_iast dX1_choose_24 rfl (by simp only [q_isFile, q_isBlock, q_isBlockOfFile, q_isMirror, q_isSideOfMirror, q_isCell, q_isPlaceNumber, q_isCellOnSide, q_isPointer, q_isBlockPointer, vp_in_iff, Int32.lt_iff_toInt_lt, Int32.le_iff_toInt_le, Int32.reduceToInt] at c4 ⊢; omega) ?_
    refine zg_iload (x := q1.1) dX1_choose_25 rfl ?_
    refine zg_iconst (v := (-1)) dX1_choose_27 rfl ?_
    refine zg_icmpz (tgt := 36) dX1_choose_28 rfl rfl (fun c28 => ?_) (fun c28 => ?_)
    · refine zg_st (pc' := 36) (L' := [some (.inr 4), some (.inr 1), some (.inl p2), some (.inl p3), some (.inl q1.1)]) (S' := []) (M' := (mup q1.2 18 p2.toNatClampNeg q1.1)) rfl rfl rfl rfl ?_
      refine zg_iload (x := q1.1) dX1_choose_36 rfl ?_
      refine zg_iconst (v := (-1)) dX1_choose_38 rfl ?_
      refine zg_icmpz (tgt := 46) dX1_choose_39 rfl rfl (fun c39 => ?_) (fun c39 => ?_)
      · refine zg_st (pc' := 46) (L' := [some (.inr 4), some (.inr 1), some (.inl p2), some (.inl p3), some (.inl q1.1)]) (S' := []) (M' := (mup q1.2 18 p2.toNatClampNeg q1.1)) rfl rfl rfl rfl ?_
        refine zg_iconst (v := 0) dX1_choose_46 rfl ?_
        exact zg_iret dX1_choose_47 rfl rfl ⟨by decide, by decide⟩ rfl
      · refine zg_st (pc' := 42) (L' := [some (.inr 4), some (.inr 1), some (.inl p2), some (.inl p3), some (.inl q1.1)]) (S' := []) (M' := (mup q1.2 18 p2.toNatClampNeg q1.1)) rfl rfl rfl rfl ?_
        refine zg_iconst (v := 1) dX1_choose_42 rfl ?_
        refine zg_goto (tgt := 47) dX1_choose_43 rfl ?_
        refine zg_st (pc' := 47) (L' := [some (.inr 4), some (.inr 1), some (.inl p2), some (.inl p3), some (.inl q1.1)]) (S' := [.inl 1]) (M' := (mup q1.2 18 p2.toNatClampNeg q1.1)) rfl rfl rfl rfl ?_
        exact zg_iret dX1_choose_47 rfl rfl ⟨by decide, by decide⟩ rfl
    · refine zg_st (pc' := 31) (L' := [some (.inr 4), some (.inr 1), some (.inl p2), some (.inl p3), some (.inl q1.1)]) (S' := []) (M' := (mup q1.2 18 p2.toNatClampNeg q1.1)) rfl rfl rfl rfl ?_
      refine zg_iload_n (x := p3) dX1_choose_31 rfl ?_
      refine zg_iconst (v := 2) dX1_choose_32 rfl ?_
      refine zg_icmpz (tgt := 48) dX1_choose_33 rfl rfl (fun c33 => ?_) (fun c33 => ?_)
      · refine zg_st (pc' := 48) (L' := [some (.inr 4), some (.inr 1), some (.inl p2), some (.inl p3), some (.inl q1.1)]) (S' := []) (M' := (mup q1.2 18 p2.toNatClampNeg q1.1)) rfl rfl rfl rfl ?_
        refine zg_aload_n (x := 4) dX1_choose_48 rfl ?_
        refine zg_getf (v := .inr 19) dX1_choose_49 zf_X1_21 rfl rfl rfl ?_
        refine zg_iload_n (x := p2) dX1_choose_52 rfl ?_
        refine zg_aload_n (x := 4) dX1_choose_53 rfl ?_
        refine zg_aload_n (x := 1) dX1_choose_54 rfl ?_
        refine zg_iload (x := q1.1) dX1_choose_55 rfl ?_
        refine zg_cN1 (As := [.inl q1.1]) (S := [.inr 1, .inr 4, .inl p2, .inr 19]) (v := (f_X4_mirrorOf q1.1)) dX1_choose_57 zk_X1_44 (k_X4_mirrorOf q q1.1 (mup q1.2 18 p2.toNatClampNeg q1.1)) rfl ⟨by decide, by decide⟩ ⟨by decide, by decide⟩ rfl (Nat.le_of_ble_eq_true rfl) ?_
        refine zg_st (pc' := 60) (L' := [some (.inr 4), some (.inr 1), some (.inl p2), some (.inl p3), some (.inl q1.1)]) (S' := [.inl (f_X4_mirrorOf q1.1), .inr 1, .inr 4, .inl p2, .inr 19]) (M' := (mup q1.2 18 p2.toNatClampNeg q1.1)) rfl rfl rfl rfl ?_
        refine zg_cVIM (As := [.inr 1, .inl (f_X4_mirrorOf q1.1)]) (S := [.inl p2, .inr 19]) dX1_choose_60 zk_X1_40 (k_X1_takeBeside q (f_X4_mirrorOf q1.1) (mup q1.2 18 p2.toNatClampNeg q1.1)) rfl rfl ⟨by decide, by decide⟩ ⟨by decide, by decide⟩ rfl (Nat.le_of_ble_eq_true rfl) (fun q2 e_q2 => ?_)
        try dsimp only
        refine zg_st (pc' := 63) (L' := [some (.inr 4), some (.inr 1), some (.inl p2), some (.inl p3), some (.inl q1.1)]) (S' := [.inl q2.1, .inl p2, .inr 19]) (M' := q2.2) rfl rfl rfl rfl ?_
        refine zg_iast dX1_choose_63 rfl (by simp only [q_isFile, q_isBlock, q_isBlockOfFile, q_isMirror, q_isSideOfMirror, q_isCell, q_isPlaceNumber, q_isCellOnSide, q_isPointer, q_isBlockPointer, vp_in_iff, Int32.lt_iff_toInt_lt, Int32.le_iff_toInt_le, Int32.reduceToInt] at c4 c28 c33 ⊢; omega) ?_
        refine zg_aload_n (x := 4) dX1_choose_64 rfl ?_
        refine zg_getf (v := .inr 19) dX1_choose_65 zf_X1_21 rfl rfl rfl ?_
        refine zg_iload_n (x := p2) dX1_choose_68 rfl ?_
        refine zg_iald dX1_choose_69 rfl (by simp only [q_isFile, q_isBlock, q_isBlockOfFile, q_isMirror, q_isSideOfMirror, q_isCell, q_isPlaceNumber, q_isCellOnSide, q_isPointer, q_isBlockPointer, vp_in_iff, Int32.lt_iff_toInt_lt, Int32.le_iff_toInt_le, Int32.reduceToInt] at c4 c28 c33 ⊢; omega) ?_
        refine zg_iconst (v := (-1)) dX1_choose_70 rfl ?_
        refine zg_icmpz (tgt := 78) dX1_choose_71 rfl rfl (fun c71 => ?_) (fun c71 => ?_)
        · refine zg_st (pc' := 78) (L' := [some (.inr 4), some (.inr 1), some (.inl p2), some (.inl p3), some (.inl q1.1)]) (S' := []) (M' := (mup q2.2 19 p2.toNatClampNeg q2.1)) rfl rfl rfl rfl ?_
          refine zg_iconst (v := 0) dX1_choose_78 rfl ?_
          exact zg_iret dX1_choose_79 rfl rfl ⟨by decide, by decide⟩ rfl
        · refine zg_st (pc' := 74) (L' := [some (.inr 4), some (.inr 1), some (.inl p2), some (.inl p3), some (.inl q1.1)]) (S' := []) (M' := (mup q2.2 19 p2.toNatClampNeg q2.1)) rfl rfl rfl rfl ?_
          refine zg_iconst (v := 1) dX1_choose_74 rfl ?_
          refine zg_goto (tgt := 79) dX1_choose_75 rfl ?_
          refine zg_st (pc' := 79) (L' := [some (.inr 4), some (.inr 1), some (.inl p2), some (.inl p3), some (.inl q1.1)]) (S' := [.inl 1]) (M' := (mup q2.2 19 p2.toNatClampNeg q2.1)) rfl rfl rfl rfl ?_
          exact zg_iret dX1_choose_79 rfl rfl ⟨by decide, by decide⟩ rfl
      · refine zg_st (pc' := 36) (L' := [some (.inr 4), some (.inr 1), some (.inl p2), some (.inl p3), some (.inl q1.1)]) (S' := []) (M' := (mup q1.2 18 p2.toNatClampNeg q1.1)) rfl rfl rfl rfl ?_
        refine zg_iload (x := q1.1) dX1_choose_36 rfl ?_
        refine zg_iconst (v := (-1)) dX1_choose_38 rfl ?_
        refine zg_icmpz (tgt := 46) dX1_choose_39 rfl rfl (fun c39 => ?_) (fun c39 => ?_)
        · refine zg_st (pc' := 46) (L' := [some (.inr 4), some (.inr 1), some (.inl p2), some (.inl p3), some (.inl q1.1)]) (S' := []) (M' := (mup q1.2 18 p2.toNatClampNeg q1.1)) rfl rfl rfl rfl ?_
          refine zg_iconst (v := 0) dX1_choose_46 rfl ?_
          exact zg_iret dX1_choose_47 rfl rfl ⟨by decide, by decide⟩ rfl
        · refine zg_st (pc' := 42) (L' := [some (.inr 4), some (.inr 1), some (.inl p2), some (.inl p3), some (.inl q1.1)]) (S' := []) (M' := (mup q1.2 18 p2.toNatClampNeg q1.1)) rfl rfl rfl rfl ?_
          refine zg_iconst (v := 1) dX1_choose_42 rfl ?_
          refine zg_goto (tgt := 47) dX1_choose_43 rfl ?_
          refine zg_st (pc' := 47) (L' := [some (.inr 4), some (.inr 1), some (.inl p2), some (.inl p3), some (.inl q1.1)]) (S' := [.inl 1]) (M' := (mup q1.2 18 p2.toNatClampNeg q1.1)) rfl rfl rfl rfl ?_
          exact zg_iret dX1_choose_47 rfl rfl ⟨by decide, by decide⟩ rfl
  · refine zg_st (pc' := 7) (L' := [some (.inr 4), some (.inr 1), some (.inl p2), some (.inl p3), none]) (S' := []) (M' := M) rfl rfl rfl rfl ?_
    refine zg_iconst (v := 0) dX1_choose_7 rfl ?_
    exact zg_iret dX1_choose_8 rfl rfl ⟨by decide, by decide⟩ rfl
theorem dX1_firstFor_0 : decode cX1_firstFor 0 = .ok (.iload_n 1, 1) := by decide +kernel
theorem dX1_firstFor_1 : decode cX1_firstFor 1 = .ok (.invokestatic 36, 3) := by decide +kernel
theorem dX1_firstFor_4 : decode cX1_firstFor 4 = .ok (.ifCond .eq 12, 3) := by decide +kernel
theorem dX1_firstFor_7 : decode cX1_firstFor 7 = .ok (.aload_n 0, 1) := by decide +kernel
theorem dX1_firstFor_8 : decode cX1_firstFor 8 = .ok (.getfield 18, 3) := by decide +kernel
theorem dX1_firstFor_11 : decode cX1_firstFor 11 = .ok (.iload_n 1, 1) := by decide +kernel
theorem dX1_firstFor_12 : decode cX1_firstFor 12 = .ok (.iaload, 1) := by decide +kernel
theorem dX1_firstFor_13 : decode cX1_firstFor 13 = .ok (.goto 4, 3) := by decide +kernel
theorem dX1_firstFor_16 : decode cX1_firstFor 16 = .ok (.iconst (-1), 1) := by decide +kernel
theorem dX1_firstFor_17 : decode cX1_firstFor 17 = .ok (.ireturn, 1) := by decide +kernel
def f_X1_firstFor (p1 : Int32) (M : Mem) : Int32 :=
  if (f_X4_isPointer p1) then (M 18 p1.toNatClampNeg)
  else (-1)
set_option maxRecDepth 100000 in
set_option maxHeartbeats 4000000 in
theorem k_X1_firstFor (q : ZQ) (p1 : Int32) (M : Mem) : Zc (zgX q) mX1_firstFor 0 0 [.inr 4, .inl p1] M (wI M (f_X1_firstFor p1 M)) := by
  refine Zc.of (by decide) zi_X1_firstFor.1 (Nat.le_of_ble_eq_true rfl) rfl ?_
  show Zg _ _ _ _ _ _ (zlet (f_X1_firstFor p1 M) (wI M)) _ _ _ _
  unfold f_X1_firstFor
  refine zg_iload_n (x := p1) dX1_firstFor_0 rfl ?_
  refine zg_cN1 (As := [.inl p1]) (S := []) (v := bI ((f_X4_isPointer p1))) dX1_firstFor_1 zk_X1_36 (k_X4_isPointer q p1 M) rfl ⟨by decide, by decide⟩ ⟨by decide, by decide⟩ rfl (Nat.le_of_ble_eq_true rfl) ?_
  refine zg_st (pc' := 4) (L' := [some (.inr 4), some (.inl p1)]) (S' := [.inl (bI ((f_X4_isPointer p1)))]) (M' := M) rfl rfl rfl rfl ?_
  refine zg_ifbe (tgt := 16) dX1_firstFor_4 rfl (fun c4 => ?_) (fun c4 => ?_)
  · refine zg_st (pc' := 7) (L' := [some (.inr 4), some (.inl p1)]) (S' := []) (M' := M) rfl rfl rfl rfl ?_
    refine zg_aload_n (x := 4) dX1_firstFor_7 rfl ?_
    refine zg_getf (v := .inr 18) dX1_firstFor_8 zf_X1_18 rfl rfl rfl ?_
    refine zg_iload_n (x := p1) dX1_firstFor_11 rfl ?_
    refine zg_iald dX1_firstFor_12 rfl (by simp only [q_isFile, q_isBlock, q_isBlockOfFile, q_isMirror, q_isSideOfMirror, q_isCell, q_isPlaceNumber, q_isCellOnSide, q_isPointer, q_isBlockPointer, vp_in_iff, Int32.lt_iff_toInt_lt, Int32.le_iff_toInt_le, Int32.reduceToInt] at c4 ⊢; omega) ?_
    refine zg_goto (tgt := 17) dX1_firstFor_13 rfl ?_
    refine zg_st (pc' := 17) (L' := [some (.inr 4), some (.inl p1)]) (S' := [.inl (M 18 p1.toNatClampNeg)]) (M' := M) rfl rfl rfl rfl ?_
    exact zg_iret dX1_firstFor_17 rfl rfl ⟨by decide, by decide⟩ rfl
  · refine zg_st (pc' := 16) (L' := [some (.inr 4), some (.inl p1)]) (S' := []) (M' := M) rfl rfl rfl rfl ?_
    refine zg_iconst (v := (-1)) dX1_firstFor_16 rfl ?_
    exact zg_iret dX1_firstFor_17 rfl rfl ⟨by decide, by decide⟩ rfl
theorem dX1_secondFor_0 : decode cX1_secondFor 0 = .ok (.iload_n 1, 1) := by decide +kernel
theorem dX1_secondFor_1 : decode cX1_secondFor 1 = .ok (.invokestatic 36, 3) := by decide +kernel
theorem dX1_secondFor_4 : decode cX1_secondFor 4 = .ok (.ifCond .eq 12, 3) := by decide +kernel
theorem dX1_secondFor_7 : decode cX1_secondFor 7 = .ok (.aload_n 0, 1) := by decide +kernel
theorem dX1_secondFor_8 : decode cX1_secondFor 8 = .ok (.getfield 21, 3) := by decide +kernel
theorem dX1_secondFor_11 : decode cX1_secondFor 11 = .ok (.iload_n 1, 1) := by decide +kernel
theorem dX1_secondFor_12 : decode cX1_secondFor 12 = .ok (.iaload, 1) := by decide +kernel
theorem dX1_secondFor_13 : decode cX1_secondFor 13 = .ok (.goto 4, 3) := by decide +kernel
theorem dX1_secondFor_16 : decode cX1_secondFor 16 = .ok (.iconst (-1), 1) := by decide +kernel
theorem dX1_secondFor_17 : decode cX1_secondFor 17 = .ok (.ireturn, 1) := by decide +kernel
def f_X1_secondFor (p1 : Int32) (M : Mem) : Int32 :=
  if (f_X4_isPointer p1) then (M 19 p1.toNatClampNeg)
  else (-1)
set_option maxRecDepth 100000 in
set_option maxHeartbeats 4000000 in
theorem k_X1_secondFor (q : ZQ) (p1 : Int32) (M : Mem) : Zc (zgX q) mX1_secondFor 0 0 [.inr 4, .inl p1] M (wI M (f_X1_secondFor p1 M)) := by
  refine Zc.of (by decide) zi_X1_secondFor.1 (Nat.le_of_ble_eq_true rfl) rfl ?_
  show Zg _ _ _ _ _ _ (zlet (f_X1_secondFor p1 M) (wI M)) _ _ _ _
  unfold f_X1_secondFor
  refine zg_iload_n (x := p1) dX1_secondFor_0 rfl ?_
  refine zg_cN1 (As := [.inl p1]) (S := []) (v := bI ((f_X4_isPointer p1))) dX1_secondFor_1 zk_X1_36 (k_X4_isPointer q p1 M) rfl ⟨by decide, by decide⟩ ⟨by decide, by decide⟩ rfl (Nat.le_of_ble_eq_true rfl) ?_
  refine zg_st (pc' := 4) (L' := [some (.inr 4), some (.inl p1)]) (S' := [.inl (bI ((f_X4_isPointer p1)))]) (M' := M) rfl rfl rfl rfl ?_
  refine zg_ifbe (tgt := 16) dX1_secondFor_4 rfl (fun c4 => ?_) (fun c4 => ?_)
  · refine zg_st (pc' := 7) (L' := [some (.inr 4), some (.inl p1)]) (S' := []) (M' := M) rfl rfl rfl rfl ?_
    refine zg_aload_n (x := 4) dX1_secondFor_7 rfl ?_
    refine zg_getf (v := .inr 19) dX1_secondFor_8 zf_X1_21 rfl rfl rfl ?_
    refine zg_iload_n (x := p1) dX1_secondFor_11 rfl ?_
    refine zg_iald dX1_secondFor_12 rfl (by simp only [q_isFile, q_isBlock, q_isBlockOfFile, q_isMirror, q_isSideOfMirror, q_isCell, q_isPlaceNumber, q_isCellOnSide, q_isPointer, q_isBlockPointer, vp_in_iff, Int32.lt_iff_toInt_lt, Int32.le_iff_toInt_le, Int32.reduceToInt] at c4 ⊢; omega) ?_
    refine zg_goto (tgt := 17) dX1_secondFor_13 rfl ?_
    refine zg_st (pc' := 17) (L' := [some (.inr 4), some (.inl p1)]) (S' := [.inl (M 19 p1.toNatClampNeg)]) (M' := M) rfl rfl rfl rfl ?_
    exact zg_iret dX1_secondFor_17 rfl rfl ⟨by decide, by decide⟩ rfl
  · refine zg_st (pc' := 16) (L' := [some (.inr 4), some (.inl p1)]) (S' := []) (M' := M) rfl rfl rfl rfl ?_
    refine zg_iconst (v := (-1)) dX1_secondFor_16 rfl ?_
    exact zg_iret dX1_secondFor_17 rfl rfl ⟨by decide, by decide⟩ rfl
end
section
theorem dX4_valueNow_0 : decode cX4_valueNow 0 = .ok (.iload_n 1, 1) := by decide +kernel
theorem dX4_valueNow_1 : decode cX4_valueNow 1 = .ok (.iload_n 2, 1) := by decide +kernel
theorem dX4_valueNow_2 : decode cX4_valueNow 2 = .ok (.invokestatic 66, 3) := by decide +kernel
theorem dX4_valueNow_5 : decode cX4_valueNow 5 = .ok (.istore_n 3, 1) := by decide +kernel
theorem dX4_valueNow_6 : decode cX4_valueNow 6 = .ok (.aload_n 0, 1) := by decide +kernel
theorem dX4_valueNow_7 : decode cX4_valueNow 7 = .ok (.getfield 26, 3) := by decide +kernel
theorem dX4_valueNow_10 : decode cX4_valueNow 10 = .ok (.iload_n 3, 1) := by decide +kernel
theorem dX4_valueNow_11 : decode cX4_valueNow 11 = .ok (.invokevirtual 86, 3) := by decide +kernel
theorem dX4_valueNow_14 : decode cX4_valueNow 14 = .ok (.ifCond .eq 14, 3) := by decide +kernel
theorem dX4_valueNow_17 : decode cX4_valueNow 17 = .ok (.aload_n 0, 1) := by decide +kernel
theorem dX4_valueNow_18 : decode cX4_valueNow 18 = .ok (.getfield 26, 3) := by decide +kernel
theorem dX4_valueNow_21 : decode cX4_valueNow 21 = .ok (.iload_n 3, 1) := by decide +kernel
theorem dX4_valueNow_22 : decode cX4_valueNow 22 = .ok (.invokevirtual 89, 3) := by decide +kernel
theorem dX4_valueNow_25 : decode cX4_valueNow 25 = .ok (.goto 11, 3) := by decide +kernel
theorem dX4_valueNow_28 : decode cX4_valueNow 28 = .ok (.aload_n 0, 1) := by decide +kernel
theorem dX4_valueNow_29 : decode cX4_valueNow 29 = .ok (.getfield 19, 3) := by decide +kernel
theorem dX4_valueNow_32 : decode cX4_valueNow 32 = .ok (.iload_n 3, 1) := by decide +kernel
theorem dX4_valueNow_33 : decode cX4_valueNow 33 = .ok (.invokevirtual 107, 3) := by decide +kernel
theorem dX4_valueNow_36 : decode cX4_valueNow 36 = .ok (.ireturn, 1) := by decide +kernel
def f_X4_valueNow (p1 : Int32) (p2 : Int32) (M : Mem) : Int32 :=
  if (f_X2_holds (f_X4_blockPointer p1 p2) M) then (f_X2_changeOf (f_X4_blockPointer p1 p2) M)
  else (f_X3_valueOf (f_X4_blockPointer p1 p2) M)
set_option maxRecDepth 100000 in
set_option maxHeartbeats 4000000 in
theorem k_X4_valueNow (q : ZQ) (p1 : Int32) (p2 : Int32) (M : Mem) : Zc (zgX q) mX4_valueNow 0 0 [.inr 0, .inl p1, .inl p2] M (wI M (f_X4_valueNow p1 p2 M)) := by
  refine Zc.of (by decide) zi_X4_valueNow.1 (Nat.le_of_ble_eq_true rfl) rfl ?_
  show Zg _ _ _ _ _ _ (zlet (f_X4_valueNow p1 p2 M) (wI M)) _ _ _ _
  unfold f_X4_valueNow
  refine zg_iload_n (x := p1) dX4_valueNow_0 rfl ?_
  refine zg_iload_n (x := p2) dX4_valueNow_1 rfl ?_
  refine zg_cS1 (As := [.inl p1, .inl p2]) (S := []) (v := (f_X4_blockPointer p1 p2)) dX4_valueNow_2 zk_X4_66 (k_X4_blockPointer q p1 p2 M) rfl ⟨by decide, by decide⟩ ⟨by decide, by decide⟩ rfl (Nat.le_of_ble_eq_true rfl) ?_
  refine zg_st (pc' := 5) (L' := [some (.inr 0), some (.inl p1), some (.inl p2), none]) (S' := [.inl (f_X4_blockPointer p1 p2)]) (M' := M) rfl rfl rfl rfl ?_
  refine zg_istore_n dX4_valueNow_5 (by decide) ?_
  refine zg_st (pc' := 6) (L' := [some (.inr 0), some (.inl p1), some (.inl p2), some (.inl (f_X4_blockPointer p1 p2))]) (S' := []) (M' := M) rfl rfl rfl rfl ?_
  refine zg_aload_n (x := 0) dX4_valueNow_6 rfl ?_
  refine zg_getf (v := .inr 3) dX4_valueNow_7 zf_X4_26 rfl rfl rfl ?_
  refine zg_iload_n (x := (f_X4_blockPointer p1 p2)) dX4_valueNow_10 rfl ?_
  refine zg_cV1 (As := [.inl (f_X4_blockPointer p1 p2)]) (S := []) (v := bI ((f_X2_holds (f_X4_blockPointer p1 p2) M))) dX4_valueNow_11 zk_X4_86 (k_X2_holds q (f_X4_blockPointer p1 p2) M) rfl rfl ⟨by decide, by decide⟩ ⟨by decide, by decide⟩ rfl (Nat.le_of_ble_eq_true rfl) ?_
  refine zg_st (pc' := 14) (L' := [some (.inr 0), some (.inl p1), some (.inl p2), some (.inl (f_X4_blockPointer p1 p2))]) (S' := [.inl (bI ((f_X2_holds (f_X4_blockPointer p1 p2) M)))]) (M' := M) rfl rfl rfl rfl ?_
  refine zg_ifbe (tgt := 28) dX4_valueNow_14 rfl (fun c14 => ?_) (fun c14 => ?_)
  · refine zg_st (pc' := 17) (L' := [some (.inr 0), some (.inl p1), some (.inl p2), some (.inl (f_X4_blockPointer p1 p2))]) (S' := []) (M' := M) rfl rfl rfl rfl ?_
    refine zg_aload_n (x := 0) dX4_valueNow_17 rfl ?_
    refine zg_getf (v := .inr 3) dX4_valueNow_18 zf_X4_26 rfl rfl rfl ?_
    refine zg_iload_n (x := (f_X4_blockPointer p1 p2)) dX4_valueNow_21 rfl ?_
    refine zg_cV1 (As := [.inl (f_X4_blockPointer p1 p2)]) (S := []) (v := (f_X2_changeOf (f_X4_blockPointer p1 p2) M)) dX4_valueNow_22 zk_X4_89 (k_X2_changeOf q (f_X4_blockPointer p1 p2) M) rfl rfl ⟨by decide, by decide⟩ ⟨by decide, by decide⟩ rfl (Nat.le_of_ble_eq_true rfl) ?_
    refine zg_st (pc' := 25) (L' := [some (.inr 0), some (.inl p1), some (.inl p2), some (.inl (f_X4_blockPointer p1 p2))]) (S' := [.inl (f_X2_changeOf (f_X4_blockPointer p1 p2) M)]) (M' := M) rfl rfl rfl rfl ?_
    refine zg_goto (tgt := 36) dX4_valueNow_25 rfl ?_
    refine zg_st (pc' := 36) (L' := [some (.inr 0), some (.inl p1), some (.inl p2), some (.inl (f_X4_blockPointer p1 p2))]) (S' := [.inl (f_X2_changeOf (f_X4_blockPointer p1 p2) M)]) (M' := M) rfl rfl rfl rfl ?_
    exact zg_iret dX4_valueNow_36 rfl rfl ⟨by decide, by decide⟩ rfl
  · refine zg_st (pc' := 28) (L' := [some (.inr 0), some (.inl p1), some (.inl p2), some (.inl (f_X4_blockPointer p1 p2))]) (S' := []) (M' := M) rfl rfl rfl rfl ?_
    refine zg_aload_n (x := 0) dX4_valueNow_28 rfl ?_
    refine zg_getf (v := .inr 2) dX4_valueNow_29 zf_X4_19 rfl rfl rfl ?_
    refine zg_iload_n (x := (f_X4_blockPointer p1 p2)) dX4_valueNow_32 rfl ?_
    refine zg_cV1 (As := [.inl (f_X4_blockPointer p1 p2)]) (S := []) (v := (f_X3_valueOf (f_X4_blockPointer p1 p2) M)) dX4_valueNow_33 zk_X4_107 (k_X3_valueOf q (f_X4_blockPointer p1 p2) M) rfl rfl ⟨by decide, by decide⟩ ⟨by decide, by decide⟩ rfl (Nat.le_of_ble_eq_true rfl) ?_
    refine zg_st (pc' := 36) (L' := [some (.inr 0), some (.inl p1), some (.inl p2), some (.inl (f_X4_blockPointer p1 p2))]) (S' := [.inl (f_X3_valueOf (f_X4_blockPointer p1 p2) M)]) (M' := M) rfl rfl rfl rfl ?_
    exact zg_iret dX4_valueNow_36 rfl rfl ⟨by decide, by decide⟩ rfl
theorem dX4_canFetch_0 : decode cX4_canFetch 0 = .ok (.iconst 0, 1) := by decide +kernel
theorem dX4_canFetch_1 : decode cX4_canFetch 1 = .ok (.istore_n 2, 1) := by decide +kernel
theorem dX4_canFetch_2 : decode cX4_canFetch 2 = .ok (.iload_n 2, 1) := by decide +kernel
theorem dX4_canFetch_3 : decode cX4_canFetch 3 = .ok (.iconst 2, 1) := by decide +kernel
theorem dX4_canFetch_4 : decode cX4_canFetch 4 = .ok (.if_icmp .ge 49, 3) := by decide +kernel
theorem dX4_canFetch_7 : decode cX4_canFetch 7 = .ok (.aload_n 0, 1) := by decide +kernel
theorem dX4_canFetch_8 : decode cX4_canFetch 8 = .ok (.getfield 19, 3) := by decide +kernel
theorem dX4_canFetch_11 : decode cX4_canFetch 11 = .ok (.iload_n 1, 1) := by decide +kernel
theorem dX4_canFetch_12 : decode cX4_canFetch 12 = .ok (.iload_n 2, 1) := by decide +kernel
theorem dX4_canFetch_13 : decode cX4_canFetch 13 = .ok (.invokevirtual 209, 3) := by decide +kernel
theorem dX4_canFetch_16 : decode cX4_canFetch 16 = .ok (.istore_n 3, 1) := by decide +kernel
theorem dX4_canFetch_17 : decode cX4_canFetch 17 = .ok (.iconst 0, 1) := by decide +kernel
theorem dX4_canFetch_18 : decode cX4_canFetch 18 = .ok (.istore 4, 2) := by decide +kernel
theorem dX4_canFetch_20 : decode cX4_canFetch 20 = .ok (.iload 4, 2) := by decide +kernel
theorem dX4_canFetch_22 : decode cX4_canFetch 22 = .ok (.iconst 2, 1) := by decide +kernel
theorem dX4_canFetch_23 : decode cX4_canFetch 23 = .ok (.if_icmp .ge 24, 3) := by decide +kernel
theorem dX4_canFetch_26 : decode cX4_canFetch 26 = .ok (.aload_n 0, 1) := by decide +kernel
theorem dX4_canFetch_27 : decode cX4_canFetch 27 = .ok (.getfield 12, 3) := by decide +kernel
theorem dX4_canFetch_30 : decode cX4_canFetch 30 = .ok (.iload_n 3, 1) := by decide +kernel
theorem dX4_canFetch_31 : decode cX4_canFetch 31 = .ok (.iload 4, 2) := by decide +kernel
theorem dX4_canFetch_33 : decode cX4_canFetch 33 = .ok (.invokevirtual 234, 3) := by decide +kernel
theorem dX4_canFetch_36 : decode cX4_canFetch 36 = .ok (.ifCond .eq 5, 3) := by decide +kernel
theorem dX4_canFetch_39 : decode cX4_canFetch 39 = .ok (.iconst 1, 1) := by decide +kernel
theorem dX4_canFetch_40 : decode cX4_canFetch 40 = .ok (.ireturn, 1) := by decide +kernel
theorem dX4_canFetch_41 : decode cX4_canFetch 41 = .ok (.iinc 4 1, 3) := by decide +kernel
theorem dX4_canFetch_44 : decode cX4_canFetch 44 = .ok (.goto (-24), 3) := by decide +kernel
theorem dX4_canFetch_47 : decode cX4_canFetch 47 = .ok (.iinc 2 1, 3) := by decide +kernel
theorem dX4_canFetch_50 : decode cX4_canFetch 50 = .ok (.goto (-48), 3) := by decide +kernel
theorem dX4_canFetch_53 : decode cX4_canFetch 53 = .ok (.iconst 0, 1) := by decide +kernel
theorem dX4_canFetch_54 : decode cX4_canFetch 54 = .ok (.ireturn, 1) := by decide +kernel
def b_X4_canFetch_20 (x1 : Int32) (x2 : Int32) (x3 : Int32) (M : Mem) (rec : Int32 → Bool ⊕ (Int32)) (v4 : Int32) : Bool ⊕ (Int32) :=
  if 2 ≤ v4 then .inr v4
  else if (f_X0_isGood x3 v4 M) then .inl true
  else rec (v4 + 1)
def l_X4_canFetch_20 (x1 : Int32) (x2 : Int32) (x3 : Int32) (M : Mem) : Nat → Int32 → Bool ⊕ (Int32)
  | 0, v4 => .inr v4
  | n + 1, v4 => b_X4_canFetch_20 x1 x2 x3 M (l_X4_canFetch_20 x1 x2 x3 M n) v4
set_option maxRecDepth 100000 in
set_option maxHeartbeats 4000000 in
theorem kl_X4_canFetch_20 (q : ZQ) (x1 : Int32) (x2 : Int32) (x3 : Int32) (M : Mem) {K : Bool ⊕ (Int32) → ZR} (hret : ∀ r : Bool, K (.inl r) = (wB M) r) (hx : ∀ e : Int32, Zg (zgX q) mX4_canFetch 0 0 0 0 (K (.inr e)) 47 [some (.inr 0), some (.inl x1), some (.inl x2), some (.inl x3), some (.inl e)] [] M) :
    ∀ (n : Nat) (v4 : Int32), ((2 : Int32).toInt - (v4 : Int32).toInt).toNat < n → Zg (zgX q) mX4_canFetch 0 0 0 0 (zlet (l_X4_canFetch_20 x1 x2 x3 M n v4) K) 20 [some (.inr 0), some (.inl x1), some (.inl x2), some (.inl x3), some (.inl v4)] [] M := by
  intro n
  induction n with
  | zero => intro v4 hm; exact absurd hm (Nat.not_lt_zero _)
  | succ n ih =>
    intro v4 hm
    show Zg _ _ _ _ _ _ (zlet (b_X4_canFetch_20 x1 x2 x3 M (l_X4_canFetch_20 x1 x2 x3 M n) v4) K) _ _ _ _
    unfold b_X4_canFetch_20
    refine zg_iload (x := v4) dX4_canFetch_20 rfl ?_
    refine zg_iconst (v := 2) dX4_canFetch_22 rfl ?_
    refine zg_icmpz (tgt := 47) dX4_canFetch_23 rfl rfl (fun c23 => ?_) (fun c23 => ?_)
    · refine zg_st (pc' := 47) (L' := [some (.inr 0), some (.inl x1), some (.inl x2), some (.inl x3), some (.inl v4)]) (S' := []) (M' := M) rfl rfl rfl rfl ?_
      refine zg_drop (L' := [some (.inr 0), some (.inl x1), some (.inl x2), some (.inl x3), some (.inl v4)]) ⟨rfl, rfl, rfl, rfl, rfl, trivial⟩ ?_
      exact hx v4
    · refine zg_st (pc' := 26) (L' := [some (.inr 0), some (.inl x1), some (.inl x2), some (.inl x3), some (.inl v4)]) (S' := []) (M' := M) rfl rfl rfl rfl ?_
      refine zg_aload_n (x := 0) dX4_canFetch_26 rfl ?_
      refine zg_getf (v := .inr 1) dX4_canFetch_27 zf_X4_12 rfl rfl rfl ?_
      refine zg_iload_n (x := x3) dX4_canFetch_30 rfl ?_
      refine zg_iload (x := v4) dX4_canFetch_31 rfl ?_
      refine zg_cV1 (As := [.inl x3, .inl v4]) (S := []) (v := bI ((f_X0_isGood x3 v4 M))) dX4_canFetch_33 zk_X4_234 (k_X0_isGood q x3 v4 M) rfl rfl ⟨by decide, by decide⟩ ⟨by decide, by decide⟩ rfl (Nat.le_of_ble_eq_true rfl) ?_
      refine zg_st (pc' := 36) (L' := [some (.inr 0), some (.inl x1), some (.inl x2), some (.inl x3), some (.inl v4)]) (S' := [.inl (bI ((f_X0_isGood x3 v4 M)))]) (M' := M) rfl rfl rfl rfl ?_
      refine zg_ifbe (tgt := 41) dX4_canFetch_36 rfl (fun c36 => ?_) (fun c36 => ?_)
      · refine zg_st (pc' := 39) (L' := [some (.inr 0), some (.inl x1), some (.inl x2), some (.inl x3), some (.inl v4)]) (S' := []) (M' := M) rfl rfl rfl rfl ?_
        refine zg_iconst (v := 1) dX4_canFetch_39 rfl ?_
        exact zg_iret dX4_canFetch_40 rfl rfl ⟨by decide, by decide⟩ (hret _)
      · refine zg_st (pc' := 41) (L' := [some (.inr 0), some (.inl x1), some (.inl x2), some (.inl x3), some (.inl v4)]) (S' := []) (M' := M) rfl rfl rfl rfl ?_
        refine zg_iinc (v := (v4 + 1)) dX4_canFetch_41 rfl (by decide) rfl ?_
        refine zg_st (pc' := 44) (L' := [some (.inr 0), some (.inl x1), some (.inl x2), some (.inl x3), some (.inl (v4 + 1))]) (S' := []) (M' := M) rfl rfl rfl rfl ?_
        refine zg_goto (tgt := 20) dX4_canFetch_44 rfl ?_
        refine zg_st (pc' := 20) (L' := [some (.inr 0), some (.inl x1), some (.inl x2), some (.inl x3), some (.inl (v4 + 1))]) (S' := []) (M' := M) rfl rfl rfl rfl ?_
        refine zg_drop (L' := [some (.inr 0), some (.inl x1), some (.inl x2), some (.inl x3), some (.inl (v4 + 1))]) ⟨rfl, rfl, rfl, rfl, rfl, trivial⟩ ?_
        exact ih (v4 + 1) (z_up c23 hm)
def b_X4_canFetch_2 (x1 : Int32) (M : Mem) (rec : Int32 → Bool ⊕ (Int32)) (v2 : Int32) : Bool ⊕ (Int32) :=
  if 2 ≤ v2 then .inr v2
  else zlet (l_X4_canFetch_20 x1 v2 (f_X3_placeOf x1 v2 M) M 3 0) (fun s1 => Sum.elim (fun r => .inl r) (fun e_s1 =>
  rec (v2 + 1)) s1)
def l_X4_canFetch_2 (x1 : Int32) (M : Mem) : Nat → Int32 → Bool ⊕ (Int32)
  | 0, v2 => .inr v2
  | n + 1, v2 => b_X4_canFetch_2 x1 M (l_X4_canFetch_2 x1 M n) v2
set_option maxRecDepth 100000 in
set_option maxHeartbeats 4000000 in
theorem kl_X4_canFetch_2 (q : ZQ) (x1 : Int32) (M : Mem) {K : Bool ⊕ (Int32) → ZR} (hret : ∀ r : Bool, K (.inl r) = (wB M) r) (hx : ∀ e : Int32, Zg (zgX q) mX4_canFetch 0 0 0 0 (K (.inr e)) 53 [some (.inr 0), some (.inl x1), some (.inl e), none, none] [] M) :
    ∀ (n : Nat) (v2 : Int32), ((2 : Int32).toInt - (v2 : Int32).toInt).toNat < n → Zg (zgX q) mX4_canFetch 0 0 0 0 (zlet (l_X4_canFetch_2 x1 M n v2) K) 2 [some (.inr 0), some (.inl x1), some (.inl v2), none, none] [] M := by
  intro n
  induction n with
  | zero => intro v2 hm; exact absurd hm (Nat.not_lt_zero _)
  | succ n ih =>
    intro v2 hm
    show Zg _ _ _ _ _ _ (zlet (b_X4_canFetch_2 x1 M (l_X4_canFetch_2 x1 M n) v2) K) _ _ _ _
    unfold b_X4_canFetch_2
    refine zg_iload_n (x := v2) dX4_canFetch_2 rfl ?_
    refine zg_iconst (v := 2) dX4_canFetch_3 rfl ?_
    refine zg_icmpz (tgt := 53) dX4_canFetch_4 rfl rfl (fun c4 => ?_) (fun c4 => ?_)
    · refine zg_st (pc' := 53) (L' := [some (.inr 0), some (.inl x1), some (.inl v2), none, none]) (S' := []) (M' := M) rfl rfl rfl rfl ?_
      refine zg_drop (L' := [some (.inr 0), some (.inl x1), some (.inl v2), none, none]) ⟨rfl, rfl, rfl, trivial⟩ ?_
      exact hx v2
    · refine zg_st (pc' := 7) (L' := [some (.inr 0), some (.inl x1), some (.inl v2), none, none]) (S' := []) (M' := M) rfl rfl rfl rfl ?_
      refine zg_aload_n (x := 0) dX4_canFetch_7 rfl ?_
      refine zg_getf (v := .inr 2) dX4_canFetch_8 zf_X4_19 rfl rfl rfl ?_
      refine zg_iload_n (x := x1) dX4_canFetch_11 rfl ?_
      refine zg_iload_n (x := v2) dX4_canFetch_12 rfl ?_
      refine zg_cV1 (As := [.inl x1, .inl v2]) (S := []) (v := (f_X3_placeOf x1 v2 M)) dX4_canFetch_13 zk_X4_209 (k_X3_placeOf q x1 v2 M) rfl rfl ⟨by decide, by decide⟩ ⟨by decide, by decide⟩ rfl (Nat.le_of_ble_eq_true rfl) ?_
      refine zg_st (pc' := 16) (L' := [some (.inr 0), some (.inl x1), some (.inl v2), none, none]) (S' := [.inl (f_X3_placeOf x1 v2 M)]) (M' := M) rfl rfl rfl rfl ?_
      refine zg_istore_n dX4_canFetch_16 (by decide) ?_
      refine zg_st (pc' := 17) (L' := [some (.inr 0), some (.inl x1), some (.inl v2), some (.inl (f_X3_placeOf x1 v2 M)), none]) (S' := []) (M' := M) rfl rfl rfl rfl ?_
      refine zg_iconst (v := 0) dX4_canFetch_17 rfl ?_
      refine zg_istore dX4_canFetch_18 (by decide) ?_
      refine zg_st (pc' := 20) (L' := [some (.inr 0), some (.inl x1), some (.inl v2), some (.inl (f_X3_placeOf x1 v2 M)), some (.inl 0)]) (S' := []) (M' := M) rfl rfl rfl rfl ?_
      refine zg_asc ?_
      refine zg_drop (L' := [some (.inr 0), some (.inl x1), some (.inl v2), some (.inl (f_X3_placeOf x1 v2 M)), some (.inl 0)]) ⟨rfl, rfl, rfl, rfl, rfl, trivial⟩ ?_
      refine kl_X4_canFetch_20 q x1 v2 (f_X3_placeOf x1 v2 M) M ?_ (fun e_s1 => ?_) 3 0 (by decide)
      · exact fun r => hret r
      try dsimp only [Sum.elim_inr]
      refine zg_st (pc' := 47) (L' := [some (.inr 0), some (.inl x1), some (.inl v2), some (.inl (f_X3_placeOf x1 v2 M)), some (.inl e_s1)]) (S' := []) (M' := M) rfl rfl rfl rfl ?_
      refine zg_iinc (v := (v2 + 1)) dX4_canFetch_47 rfl (by decide) rfl ?_
      refine zg_st (pc' := 50) (L' := [some (.inr 0), some (.inl x1), some (.inl (v2 + 1)), some (.inl (f_X3_placeOf x1 v2 M)), some (.inl e_s1)]) (S' := []) (M' := M) rfl rfl rfl rfl ?_
      refine zg_goto (tgt := 2) dX4_canFetch_50 rfl ?_
      refine zg_st (pc' := 2) (L' := [some (.inr 0), some (.inl x1), some (.inl (v2 + 1)), some (.inl (f_X3_placeOf x1 v2 M)), some (.inl e_s1)]) (S' := []) (M' := M) rfl rfl rfl rfl ?_
      refine zg_drop (L' := [some (.inr 0), some (.inl x1), some (.inl (v2 + 1)), none, none]) ⟨rfl, rfl, rfl, trivial⟩ ?_
      exact ih (v2 + 1) (z_up c4 hm)
def f_X4_canFetch (p1 : Int32) (M : Mem) : Bool :=
  zlet (l_X4_canFetch_2 p1 M 3 0) (fun s2 => Sum.elim (fun r => r) (fun e_s2 =>
  false) s2)
set_option maxRecDepth 100000 in
set_option maxHeartbeats 4000000 in
theorem k_X4_canFetch (q : ZQ) (p1 : Int32) (M : Mem) : Zc (zgX q) mX4_canFetch 0 0 [.inr 0, .inl p1] M (wB M (f_X4_canFetch p1 M)) := by
  refine Zc.of (by decide) zi_X4_canFetch.1 (Nat.le_of_ble_eq_true rfl) rfl ?_
  show Zg _ _ _ _ _ _ (zlet (f_X4_canFetch p1 M) (wB M)) _ _ _ _
  unfold f_X4_canFetch
  refine zg_iconst (v := 0) dX4_canFetch_0 rfl ?_
  refine zg_istore_n dX4_canFetch_1 (by decide) ?_
  refine zg_st (pc' := 2) (L' := [some (.inr 0), some (.inl p1), some (.inl 0), none, none]) (S' := []) (M' := M) rfl rfl rfl rfl ?_
  refine zg_asc ?_
  refine zg_drop (L' := [some (.inr 0), some (.inl p1), some (.inl 0), none, none]) ⟨rfl, rfl, rfl, trivial⟩ ?_
  refine kl_X4_canFetch_2 q p1 M ?_ (fun e_s2 => ?_) 3 0 (by decide)
  · exact fun r => rfl
  try dsimp only [Sum.elim_inr]
  refine zg_st (pc' := 53) (L' := [some (.inr 0), some (.inl p1), some (.inl e_s2), none, none]) (S' := []) (M' := M) rfl rfl rfl rfl ?_
  refine zg_iconst (v := 0) dX4_canFetch_53 rfl ?_
  exact zg_iret dX4_canFetch_54 rfl rfl ⟨by decide, by decide⟩ rfl
theorem dX4_isUnreadable_0 : decode cX4_isUnreadable 0 = .ok (.aload_n 0, 1) := by decide +kernel
theorem dX4_isUnreadable_1 : decode cX4_isUnreadable 1 = .ok (.getfield 19, 3) := by decide +kernel
theorem dX4_isUnreadable_4 : decode cX4_isUnreadable 4 = .ok (.iload_n 1, 1) := by decide +kernel
theorem dX4_isUnreadable_5 : decode cX4_isUnreadable 5 = .ok (.invokevirtual 203, 3) := by decide +kernel
theorem dX4_isUnreadable_8 : decode cX4_isUnreadable 8 = .ok (.ifCond .ne 15, 3) := by decide +kernel
theorem dX4_isUnreadable_11 : decode cX4_isUnreadable 11 = .ok (.aload_n 0, 1) := by decide +kernel
theorem dX4_isUnreadable_12 : decode cX4_isUnreadable 12 = .ok (.iload_n 1, 1) := by decide +kernel
theorem dX4_isUnreadable_13 : decode cX4_isUnreadable 13 = .ok (.invokevirtual 194, 3) := by decide +kernel
theorem dX4_isUnreadable_16 : decode cX4_isUnreadable 16 = .ok (.ifCond .ne 7, 3) := by decide +kernel
theorem dX4_isUnreadable_19 : decode cX4_isUnreadable 19 = .ok (.iconst 1, 1) := by decide +kernel
theorem dX4_isUnreadable_20 : decode cX4_isUnreadable 20 = .ok (.goto 4, 3) := by decide +kernel
theorem dX4_isUnreadable_23 : decode cX4_isUnreadable 23 = .ok (.iconst 0, 1) := by decide +kernel
theorem dX4_isUnreadable_24 : decode cX4_isUnreadable 24 = .ok (.ireturn, 1) := by decide +kernel
def f_X4_isUnreadable (p1 : Int32) (M : Mem) : Bool :=
  if (f_X3_isMissing p1 M) then false
  else if (f_X4_canFetch p1 M) then false
  else true
set_option maxRecDepth 100000 in
set_option maxHeartbeats 4000000 in
theorem k_X4_isUnreadable (q : ZQ) (p1 : Int32) (M : Mem) : Zc (zgX q) mX4_isUnreadable 0 0 [.inr 0, .inl p1] M (wB M (f_X4_isUnreadable p1 M)) := by
  refine Zc.of (by decide) zi_X4_isUnreadable.1 (Nat.le_of_ble_eq_true rfl) rfl ?_
  show Zg _ _ _ _ _ _ (zlet (f_X4_isUnreadable p1 M) (wB M)) _ _ _ _
  unfold f_X4_isUnreadable
  refine zg_aload_n (x := 0) dX4_isUnreadable_0 rfl ?_
  refine zg_getf (v := .inr 2) dX4_isUnreadable_1 zf_X4_19 rfl rfl rfl ?_
  refine zg_iload_n (x := p1) dX4_isUnreadable_4 rfl ?_
  refine zg_cV1 (As := [.inl p1]) (S := []) (v := bI ((f_X3_isMissing p1 M))) dX4_isUnreadable_5 zk_X4_203 (k_X3_isMissing q p1 M) rfl rfl ⟨by decide, by decide⟩ ⟨by decide, by decide⟩ rfl (Nat.le_of_ble_eq_true rfl) ?_
  refine zg_st (pc' := 8) (L' := [some (.inr 0), some (.inl p1)]) (S' := [.inl (bI ((f_X3_isMissing p1 M)))]) (M' := M) rfl rfl rfl rfl ?_
  refine zg_ifbn (tgt := 23) dX4_isUnreadable_8 rfl (fun c8 => ?_) (fun c8 => ?_)
  · refine zg_st (pc' := 23) (L' := [some (.inr 0), some (.inl p1)]) (S' := []) (M' := M) rfl rfl rfl rfl ?_
    refine zg_iconst (v := 0) dX4_isUnreadable_23 rfl ?_
    exact zg_iret dX4_isUnreadable_24 rfl rfl ⟨by decide, by decide⟩ rfl
  · refine zg_st (pc' := 11) (L' := [some (.inr 0), some (.inl p1)]) (S' := []) (M' := M) rfl rfl rfl rfl ?_
    refine zg_aload_n (x := 0) dX4_isUnreadable_11 rfl ?_
    refine zg_iload_n (x := p1) dX4_isUnreadable_12 rfl ?_
    refine zg_cV1 (As := [.inl p1]) (S := []) (v := bI ((f_X4_canFetch p1 M))) dX4_isUnreadable_13 zk_X4_194 (k_X4_canFetch q p1 M) rfl rfl ⟨by decide, by decide⟩ ⟨by decide, by decide⟩ rfl (Nat.le_of_ble_eq_true rfl) ?_
    refine zg_st (pc' := 16) (L' := [some (.inr 0), some (.inl p1)]) (S' := [.inl (bI ((f_X4_canFetch p1 M)))]) (M' := M) rfl rfl rfl rfl ?_
    refine zg_ifbn (tgt := 23) dX4_isUnreadable_16 rfl (fun c16 => ?_) (fun c16 => ?_)
    · refine zg_st (pc' := 23) (L' := [some (.inr 0), some (.inl p1)]) (S' := []) (M' := M) rfl rfl rfl rfl ?_
      refine zg_iconst (v := 0) dX4_isUnreadable_23 rfl ?_
      exact zg_iret dX4_isUnreadable_24 rfl rfl ⟨by decide, by decide⟩ rfl
    · refine zg_st (pc' := 19) (L' := [some (.inr 0), some (.inl p1)]) (S' := []) (M' := M) rfl rfl rfl rfl ?_
      refine zg_iconst (v := 1) dX4_isUnreadable_19 rfl ?_
      refine zg_goto (tgt := 24) dX4_isUnreadable_20 rfl ?_
      refine zg_st (pc' := 24) (L' := [some (.inr 0), some (.inl p1)]) (S' := [.inl 1]) (M' := M) rfl rfl rfl rfl ?_
      exact zg_iret dX4_isUnreadable_24 rfl rfl ⟨by decide, by decide⟩ rfl
theorem dX4_healUpToGoodCell_0 : decode cX4_healUpToGoodCell 0 = .ok (.iconst 0, 1) := by decide +kernel
theorem dX4_healUpToGoodCell_1 : decode cX4_healUpToGoodCell 1 = .ok (.istore_n 2, 1) := by decide +kernel
theorem dX4_healUpToGoodCell_2 : decode cX4_healUpToGoodCell 2 = .ok (.iconst 0, 1) := by decide +kernel
theorem dX4_healUpToGoodCell_3 : decode cX4_healUpToGoodCell 3 = .ok (.istore_n 3, 1) := by decide +kernel
theorem dX4_healUpToGoodCell_4 : decode cX4_healUpToGoodCell 4 = .ok (.iload_n 3, 1) := by decide +kernel
theorem dX4_healUpToGoodCell_5 : decode cX4_healUpToGoodCell 5 = .ok (.iconst 2, 1) := by decide +kernel
theorem dX4_healUpToGoodCell_6 : decode cX4_healUpToGoodCell 6 = .ok (.if_icmp .ge 65, 3) := by decide +kernel
theorem dX4_healUpToGoodCell_9 : decode cX4_healUpToGoodCell 9 = .ok (.aload_n 0, 1) := by decide +kernel
theorem dX4_healUpToGoodCell_10 : decode cX4_healUpToGoodCell 10 = .ok (.getfield 19, 3) := by decide +kernel
theorem dX4_healUpToGoodCell_13 : decode cX4_healUpToGoodCell 13 = .ok (.iload_n 1, 1) := by decide +kernel
theorem dX4_healUpToGoodCell_14 : decode cX4_healUpToGoodCell 14 = .ok (.iload_n 3, 1) := by decide +kernel
theorem dX4_healUpToGoodCell_15 : decode cX4_healUpToGoodCell 15 = .ok (.invokevirtual 209, 3) := by decide +kernel
theorem dX4_healUpToGoodCell_18 : decode cX4_healUpToGoodCell 18 = .ok (.istore 4, 2) := by decide +kernel
theorem dX4_healUpToGoodCell_20 : decode cX4_healUpToGoodCell 20 = .ok (.iconst 0, 1) := by decide +kernel
theorem dX4_healUpToGoodCell_21 : decode cX4_healUpToGoodCell 21 = .ok (.istore 5, 2) := by decide +kernel
theorem dX4_healUpToGoodCell_23 : decode cX4_healUpToGoodCell 23 = .ok (.iload 5, 2) := by decide +kernel
theorem dX4_healUpToGoodCell_25 : decode cX4_healUpToGoodCell 25 = .ok (.iconst 2, 1) := by decide +kernel
theorem dX4_healUpToGoodCell_26 : decode cX4_healUpToGoodCell 26 = .ok (.if_icmp .ge 39, 3) := by decide +kernel
theorem dX4_healUpToGoodCell_29 : decode cX4_healUpToGoodCell 29 = .ok (.aload_n 0, 1) := by decide +kernel
theorem dX4_healUpToGoodCell_30 : decode cX4_healUpToGoodCell 30 = .ok (.getfield 12, 3) := by decide +kernel
theorem dX4_healUpToGoodCell_33 : decode cX4_healUpToGoodCell 33 = .ok (.iload 4, 2) := by decide +kernel
theorem dX4_healUpToGoodCell_35 : decode cX4_healUpToGoodCell 35 = .ok (.iload 5, 2) := by decide +kernel
theorem dX4_healUpToGoodCell_37 : decode cX4_healUpToGoodCell 37 = .ok (.invokevirtual 234, 3) := by decide +kernel
theorem dX4_healUpToGoodCell_40 : decode cX4_healUpToGoodCell 40 = .ok (.ifCond .eq 5, 3) := by decide +kernel
theorem dX4_healUpToGoodCell_43 : decode cX4_healUpToGoodCell 43 = .ok (.iload_n 2, 1) := by decide +kernel
theorem dX4_healUpToGoodCell_44 : decode cX4_healUpToGoodCell 44 = .ok (.ireturn, 1) := by decide +kernel
theorem dX4_healUpToGoodCell_45 : decode cX4_healUpToGoodCell 45 = .ok (.iload_n 2, 1) := by decide +kernel
theorem dX4_healUpToGoodCell_46 : decode cX4_healUpToGoodCell 46 = .ok (.aload_n 0, 1) := by decide +kernel
theorem dX4_healUpToGoodCell_47 : decode cX4_healUpToGoodCell 47 = .ok (.getfield 12, 3) := by decide +kernel
theorem dX4_healUpToGoodCell_50 : decode cX4_healUpToGoodCell 50 = .ok (.iload 4, 2) := by decide +kernel
theorem dX4_healUpToGoodCell_52 : decode cX4_healUpToGoodCell 52 = .ok (.iload 5, 2) := by decide +kernel
theorem dX4_healUpToGoodCell_54 : decode cX4_healUpToGoodCell 54 = .ok (.invokevirtual 237, 3) := by decide +kernel
theorem dX4_healUpToGoodCell_57 : decode cX4_healUpToGoodCell 57 = .ok (.iadd, 1) := by decide +kernel
theorem dX4_healUpToGoodCell_58 : decode cX4_healUpToGoodCell 58 = .ok (.istore_n 2, 1) := by decide +kernel
theorem dX4_healUpToGoodCell_59 : decode cX4_healUpToGoodCell 59 = .ok (.iinc 5 1, 3) := by decide +kernel
theorem dX4_healUpToGoodCell_62 : decode cX4_healUpToGoodCell 62 = .ok (.goto (-39), 3) := by decide +kernel
theorem dX4_healUpToGoodCell_65 : decode cX4_healUpToGoodCell 65 = .ok (.iinc 3 1, 3) := by decide +kernel
theorem dX4_healUpToGoodCell_68 : decode cX4_healUpToGoodCell 68 = .ok (.goto (-64), 3) := by decide +kernel
theorem dX4_healUpToGoodCell_71 : decode cX4_healUpToGoodCell 71 = .ok (.iload_n 2, 1) := by decide +kernel
theorem dX4_healUpToGoodCell_72 : decode cX4_healUpToGoodCell 72 = .ok (.ireturn, 1) := by decide +kernel
def b_X4_healUpToGoodCell_23 (x1 : Int32) (x3 : Int32) (x4 : Int32) (rec : Int32 → Int32 → Mem → (Int32 × Mem) ⊕ (Int32 × Int32 × Mem)) (v2 : Int32) (v5 : Int32) (N : Mem) : (Int32 × Mem) ⊕ (Int32 × Int32 × Mem) :=
  if 2 ≤ v5 then .inr (v2, v5, N)
  else if (f_X0_isGood x4 v5 N) then .inl (v2, N)
  else zlet (f_X0_heal x4 v5 N) (fun q1 =>
  rec (v2 + q1.1) (v5 + 1) q1.2)
def l_X4_healUpToGoodCell_23 (x1 : Int32) (x3 : Int32) (x4 : Int32) : Nat → Int32 → Int32 → Mem → (Int32 × Mem) ⊕ (Int32 × Int32 × Mem)
  | 0, v2, v5, N => .inr (v2, v5, N)
  | n + 1, v2, v5, N => b_X4_healUpToGoodCell_23 x1 x3 x4 (l_X4_healUpToGoodCell_23 x1 x3 x4 n) v2 v5 N
set_option maxRecDepth 100000 in
set_option maxHeartbeats 4000000 in
theorem kl_X4_healUpToGoodCell_23 (q : ZQ) (x1 : Int32) (x3 : Int32) (x4 : Int32) {K : (Int32 × Mem) ⊕ (Int32 × Int32 × Mem) → ZR} (hret : ∀ r : (Int32 × Mem), K (.inl r) = wIM r) (hx : ∀ e : Int32 × Int32 × Mem, Zg (zgX q) mX4_healUpToGoodCell 0 0 0 0 (K (.inr e)) 65 [some (.inr 0), some (.inl x1), some (.inl e.1), some (.inl x3), some (.inl x4), some (.inl e.2.1)] [] e.2.2) :
    ∀ (n : Nat) (v2 : Int32) (v5 : Int32) (N : Mem), ((2 : Int32).toInt - (v5 : Int32).toInt).toNat < n → Zg (zgX q) mX4_healUpToGoodCell 0 0 0 0 (zlet (l_X4_healUpToGoodCell_23 x1 x3 x4 n v2 v5 N) K) 23 [some (.inr 0), some (.inl x1), some (.inl v2), some (.inl x3), some (.inl x4), some (.inl v5)] [] N := by
  intro n
  induction n with
  | zero => intro v2 v5 N hm; exact absurd hm (Nat.not_lt_zero _)
  | succ n ih =>
    intro v2 v5 N hm
    show Zg _ _ _ _ _ _ (zlet (b_X4_healUpToGoodCell_23 x1 x3 x4 (l_X4_healUpToGoodCell_23 x1 x3 x4 n) v2 v5 N) K) _ _ _ _
    unfold b_X4_healUpToGoodCell_23
    refine zg_iload (x := v5) dX4_healUpToGoodCell_23 rfl ?_
    refine zg_iconst (v := 2) dX4_healUpToGoodCell_25 rfl ?_
    refine zg_icmpz (tgt := 65) dX4_healUpToGoodCell_26 rfl rfl (fun c26 => ?_) (fun c26 => ?_)
    · refine zg_st (pc' := 65) (L' := [some (.inr 0), some (.inl x1), some (.inl v2), some (.inl x3), some (.inl x4), some (.inl v5)]) (S' := []) (M' := N) rfl rfl rfl rfl ?_
      refine zg_drop (L' := [some (.inr 0), some (.inl x1), some (.inl v2), some (.inl x3), some (.inl x4), some (.inl v5)]) ⟨rfl, rfl, rfl, rfl, rfl, rfl, trivial⟩ ?_
      exact hx (v2, v5, N)
    · refine zg_st (pc' := 29) (L' := [some (.inr 0), some (.inl x1), some (.inl v2), some (.inl x3), some (.inl x4), some (.inl v5)]) (S' := []) (M' := N) rfl rfl rfl rfl ?_
      refine zg_aload_n (x := 0) dX4_healUpToGoodCell_29 rfl ?_
      refine zg_getf (v := .inr 1) dX4_healUpToGoodCell_30 zf_X4_12 rfl rfl rfl ?_
      refine zg_iload (x := x4) dX4_healUpToGoodCell_33 rfl ?_
      refine zg_iload (x := v5) dX4_healUpToGoodCell_35 rfl ?_
      refine zg_cV1 (As := [.inl x4, .inl v5]) (S := []) (v := bI ((f_X0_isGood x4 v5 N))) dX4_healUpToGoodCell_37 zk_X4_234 (k_X0_isGood q x4 v5 N) rfl rfl ⟨by decide, by decide⟩ ⟨by decide, by decide⟩ rfl (Nat.le_of_ble_eq_true rfl) ?_
      refine zg_st (pc' := 40) (L' := [some (.inr 0), some (.inl x1), some (.inl v2), some (.inl x3), some (.inl x4), some (.inl v5)]) (S' := [.inl (bI ((f_X0_isGood x4 v5 N)))]) (M' := N) rfl rfl rfl rfl ?_
      refine zg_ifbe (tgt := 45) dX4_healUpToGoodCell_40 rfl (fun c40 => ?_) (fun c40 => ?_)
      · refine zg_st (pc' := 43) (L' := [some (.inr 0), some (.inl x1), some (.inl v2), some (.inl x3), some (.inl x4), some (.inl v5)]) (S' := []) (M' := N) rfl rfl rfl rfl ?_
        refine zg_iload_n (x := v2) dX4_healUpToGoodCell_43 rfl ?_
        exact zg_iret dX4_healUpToGoodCell_44 rfl rfl ⟨by decide, by decide⟩ (hret _)
      · refine zg_st (pc' := 45) (L' := [some (.inr 0), some (.inl x1), some (.inl v2), some (.inl x3), some (.inl x4), some (.inl v5)]) (S' := []) (M' := N) rfl rfl rfl rfl ?_
        refine zg_iload_n (x := v2) dX4_healUpToGoodCell_45 rfl ?_
        refine zg_aload_n (x := 0) dX4_healUpToGoodCell_46 rfl ?_
        refine zg_getf (v := .inr 1) dX4_healUpToGoodCell_47 zf_X4_12 rfl rfl rfl ?_
        refine zg_iload (x := x4) dX4_healUpToGoodCell_50 rfl ?_
        refine zg_iload (x := v5) dX4_healUpToGoodCell_52 rfl ?_
        refine zg_cVIM (As := [.inl x4, .inl v5]) (S := [.inl v2]) dX4_healUpToGoodCell_54 zk_X4_237 (k_X0_heal q x4 v5 N) rfl rfl ⟨by decide, by decide⟩ ⟨by decide, by decide⟩ rfl (Nat.le_of_ble_eq_true rfl) (fun q1 e_q1 => ?_)
        try dsimp only
        refine zg_st (pc' := 57) (L' := [some (.inr 0), some (.inl x1), some (.inl v2), some (.inl x3), some (.inl x4), some (.inl v5)]) (S' := [.inl q1.1, .inl v2]) (M' := q1.2) rfl rfl rfl rfl ?_
        refine zg_iadd dX4_healUpToGoodCell_57 ?_
        refine zg_istore_n dX4_healUpToGoodCell_58 (by decide) ?_
        refine zg_st (pc' := 59) (L' := [some (.inr 0), some (.inl x1), some (.inl (v2 + q1.1)), some (.inl x3), some (.inl x4), some (.inl v5)]) (S' := []) (M' := q1.2) rfl rfl rfl rfl ?_
        refine zg_iinc (v := (v5 + 1)) dX4_healUpToGoodCell_59 rfl (by decide) rfl ?_
        refine zg_st (pc' := 62) (L' := [some (.inr 0), some (.inl x1), some (.inl (v2 + q1.1)), some (.inl x3), some (.inl x4), some (.inl (v5 + 1))]) (S' := []) (M' := q1.2) rfl rfl rfl rfl ?_
        refine zg_goto (tgt := 23) dX4_healUpToGoodCell_62 rfl ?_
        refine zg_st (pc' := 23) (L' := [some (.inr 0), some (.inl x1), some (.inl (v2 + q1.1)), some (.inl x3), some (.inl x4), some (.inl (v5 + 1))]) (S' := []) (M' := q1.2) rfl rfl rfl rfl ?_
        refine zg_drop (L' := [some (.inr 0), some (.inl x1), some (.inl (v2 + q1.1)), some (.inl x3), some (.inl x4), some (.inl (v5 + 1))]) ⟨rfl, rfl, rfl, rfl, rfl, rfl, trivial⟩ ?_
        exact ih (v2 + q1.1) (v5 + 1) q1.2 (z_up c26 hm)
def b_X4_healUpToGoodCell_4 (x1 : Int32) (rec : Int32 → Int32 → Mem → (Int32 × Mem) ⊕ (Int32 × Int32 × Mem)) (v2 : Int32) (v3 : Int32) (N : Mem) : (Int32 × Mem) ⊕ (Int32 × Int32 × Mem) :=
  if 2 ≤ v3 then .inr (v2, v3, N)
  else zlet (l_X4_healUpToGoodCell_23 x1 v3 (f_X3_placeOf x1 v3 N) 3 v2 0 N) (fun s2 => Sum.elim (fun r => .inl r) (fun e_s2 =>
  rec e_s2.1 (v3 + 1) e_s2.2.2) s2)
def l_X4_healUpToGoodCell_4 (x1 : Int32) : Nat → Int32 → Int32 → Mem → (Int32 × Mem) ⊕ (Int32 × Int32 × Mem)
  | 0, v2, v3, N => .inr (v2, v3, N)
  | n + 1, v2, v3, N => b_X4_healUpToGoodCell_4 x1 (l_X4_healUpToGoodCell_4 x1 n) v2 v3 N
set_option maxRecDepth 100000 in
set_option maxHeartbeats 4000000 in
theorem kl_X4_healUpToGoodCell_4 (q : ZQ) (x1 : Int32) {K : (Int32 × Mem) ⊕ (Int32 × Int32 × Mem) → ZR} (hret : ∀ r : (Int32 × Mem), K (.inl r) = wIM r) (hx : ∀ e : Int32 × Int32 × Mem, Zg (zgX q) mX4_healUpToGoodCell 0 0 0 0 (K (.inr e)) 71 [some (.inr 0), some (.inl x1), some (.inl e.1), some (.inl e.2.1), none, none] [] e.2.2) :
    ∀ (n : Nat) (v2 : Int32) (v3 : Int32) (N : Mem), ((2 : Int32).toInt - (v3 : Int32).toInt).toNat < n → Zg (zgX q) mX4_healUpToGoodCell 0 0 0 0 (zlet (l_X4_healUpToGoodCell_4 x1 n v2 v3 N) K) 4 [some (.inr 0), some (.inl x1), some (.inl v2), some (.inl v3), none, none] [] N := by
  intro n
  induction n with
  | zero => intro v2 v3 N hm; exact absurd hm (Nat.not_lt_zero _)
  | succ n ih =>
    intro v2 v3 N hm
    show Zg _ _ _ _ _ _ (zlet (b_X4_healUpToGoodCell_4 x1 (l_X4_healUpToGoodCell_4 x1 n) v2 v3 N) K) _ _ _ _
    unfold b_X4_healUpToGoodCell_4
    refine zg_iload_n (x := v3) dX4_healUpToGoodCell_4 rfl ?_
    refine zg_iconst (v := 2) dX4_healUpToGoodCell_5 rfl ?_
    refine zg_icmpz (tgt := 71) dX4_healUpToGoodCell_6 rfl rfl (fun c6 => ?_) (fun c6 => ?_)
    · refine zg_st (pc' := 71) (L' := [some (.inr 0), some (.inl x1), some (.inl v2), some (.inl v3), none, none]) (S' := []) (M' := N) rfl rfl rfl rfl ?_
      refine zg_drop (L' := [some (.inr 0), some (.inl x1), some (.inl v2), some (.inl v3), none, none]) ⟨rfl, rfl, rfl, rfl, trivial⟩ ?_
      exact hx (v2, v3, N)
    · refine zg_st (pc' := 9) (L' := [some (.inr 0), some (.inl x1), some (.inl v2), some (.inl v3), none, none]) (S' := []) (M' := N) rfl rfl rfl rfl ?_
      refine zg_aload_n (x := 0) dX4_healUpToGoodCell_9 rfl ?_
      refine zg_getf (v := .inr 2) dX4_healUpToGoodCell_10 zf_X4_19 rfl rfl rfl ?_
      refine zg_iload_n (x := x1) dX4_healUpToGoodCell_13 rfl ?_
      refine zg_iload_n (x := v3) dX4_healUpToGoodCell_14 rfl ?_
      refine zg_cV1 (As := [.inl x1, .inl v3]) (S := []) (v := (f_X3_placeOf x1 v3 N)) dX4_healUpToGoodCell_15 zk_X4_209 (k_X3_placeOf q x1 v3 N) rfl rfl ⟨by decide, by decide⟩ ⟨by decide, by decide⟩ rfl (Nat.le_of_ble_eq_true rfl) ?_
      refine zg_st (pc' := 18) (L' := [some (.inr 0), some (.inl x1), some (.inl v2), some (.inl v3), none, none]) (S' := [.inl (f_X3_placeOf x1 v3 N)]) (M' := N) rfl rfl rfl rfl ?_
      refine zg_istore dX4_healUpToGoodCell_18 (by decide) ?_
      refine zg_st (pc' := 20) (L' := [some (.inr 0), some (.inl x1), some (.inl v2), some (.inl v3), some (.inl (f_X3_placeOf x1 v3 N)), none]) (S' := []) (M' := N) rfl rfl rfl rfl ?_
      refine zg_iconst (v := 0) dX4_healUpToGoodCell_20 rfl ?_
      refine zg_istore dX4_healUpToGoodCell_21 (by decide) ?_
      refine zg_st (pc' := 23) (L' := [some (.inr 0), some (.inl x1), some (.inl v2), some (.inl v3), some (.inl (f_X3_placeOf x1 v3 N)), some (.inl 0)]) (S' := []) (M' := N) rfl rfl rfl rfl ?_
      refine zg_asc ?_
      refine zg_drop (L' := [some (.inr 0), some (.inl x1), some (.inl v2), some (.inl v3), some (.inl (f_X3_placeOf x1 v3 N)), some (.inl 0)]) ⟨rfl, rfl, rfl, rfl, rfl, rfl, trivial⟩ ?_
      refine kl_X4_healUpToGoodCell_23 q x1 v3 (f_X3_placeOf x1 v3 N)  ?_ (fun e_s2 => ?_) 3 v2 0 N (by decide)
      · exact fun r => hret r
      try dsimp only [Sum.elim_inr]
      refine zg_st (pc' := 65) (L' := [some (.inr 0), some (.inl x1), some (.inl e_s2.1), some (.inl v3), some (.inl (f_X3_placeOf x1 v3 N)), some (.inl e_s2.2.1)]) (S' := []) (M' := e_s2.2.2) rfl rfl rfl rfl ?_
      refine zg_iinc (v := (v3 + 1)) dX4_healUpToGoodCell_65 rfl (by decide) rfl ?_
      refine zg_st (pc' := 68) (L' := [some (.inr 0), some (.inl x1), some (.inl e_s2.1), some (.inl (v3 + 1)), some (.inl (f_X3_placeOf x1 v3 N)), some (.inl e_s2.2.1)]) (S' := []) (M' := e_s2.2.2) rfl rfl rfl rfl ?_
      refine zg_goto (tgt := 4) dX4_healUpToGoodCell_68 rfl ?_
      refine zg_st (pc' := 4) (L' := [some (.inr 0), some (.inl x1), some (.inl e_s2.1), some (.inl (v3 + 1)), some (.inl (f_X3_placeOf x1 v3 N)), some (.inl e_s2.2.1)]) (S' := []) (M' := e_s2.2.2) rfl rfl rfl rfl ?_
      refine zg_drop (L' := [some (.inr 0), some (.inl x1), some (.inl e_s2.1), some (.inl (v3 + 1)), none, none]) ⟨rfl, rfl, rfl, rfl, trivial⟩ ?_
      exact ih e_s2.1 (v3 + 1) e_s2.2.2 (z_up c6 hm)
def f_X4_healUpToGoodCell (p1 : Int32) (M : Mem) : (Int32 × Mem) :=
  zlet (l_X4_healUpToGoodCell_4 p1 3 0 0 M) (fun s3 => Sum.elim (fun r => r) (fun e_s3 =>
  (e_s3.1, e_s3.2.2)) s3)
set_option maxRecDepth 100000 in
set_option maxHeartbeats 4000000 in
theorem k_X4_healUpToGoodCell (q : ZQ) (p1 : Int32) (M : Mem) : Zc (zgX q) mX4_healUpToGoodCell 0 0 [.inr 0, .inl p1] M (wIM (f_X4_healUpToGoodCell p1 M)) := by
  refine Zc.of (by decide) zi_X4_healUpToGoodCell.1 (Nat.le_of_ble_eq_true rfl) rfl ?_
  show Zg _ _ _ _ _ _ (zlet (f_X4_healUpToGoodCell p1 M) wIM) _ _ _ _
  unfold f_X4_healUpToGoodCell
  refine zg_iconst (v := 0) dX4_healUpToGoodCell_0 rfl ?_
  refine zg_istore_n dX4_healUpToGoodCell_1 (by decide) ?_
  refine zg_st (pc' := 2) (L' := [some (.inr 0), some (.inl p1), some (.inl 0), none, none, none]) (S' := []) (M' := M) rfl rfl rfl rfl ?_
  refine zg_iconst (v := 0) dX4_healUpToGoodCell_2 rfl ?_
  refine zg_istore_n dX4_healUpToGoodCell_3 (by decide) ?_
  refine zg_st (pc' := 4) (L' := [some (.inr 0), some (.inl p1), some (.inl 0), some (.inl 0), none, none]) (S' := []) (M' := M) rfl rfl rfl rfl ?_
  refine zg_asc ?_
  refine zg_drop (L' := [some (.inr 0), some (.inl p1), some (.inl 0), some (.inl 0), none, none]) ⟨rfl, rfl, rfl, rfl, trivial⟩ ?_
  refine kl_X4_healUpToGoodCell_4 q p1  ?_ (fun e_s3 => ?_) 3 0 0 M (by decide)
  · exact fun r => rfl
  try dsimp only [Sum.elim_inr]
  refine zg_st (pc' := 71) (L' := [some (.inr 0), some (.inl p1), some (.inl e_s3.1), some (.inl e_s3.2.1), none, none]) (S' := []) (M' := e_s3.2.2) rfl rfl rfl rfl ?_
  refine zg_iload_n (x := e_s3.1) dX4_healUpToGoodCell_71 rfl ?_
  exact zg_iret dX4_healUpToGoodCell_72 rfl rfl ⟨by decide, by decide⟩ rfl
theorem dX4_hasData_0 : decode cX4_hasData 0 = .ok (.iconst 0, 1) := by decide +kernel
theorem dX4_hasData_1 : decode cX4_hasData 1 = .ok (.istore_n 2, 1) := by decide +kernel
theorem dX4_hasData_2 : decode cX4_hasData 2 = .ok (.iload_n 2, 1) := by decide +kernel
theorem dX4_hasData_3 : decode cX4_hasData 3 = .ok (.bipush 12, 2) := by decide +kernel
theorem dX4_hasData_5 : decode cX4_hasData 5 = .ok (.if_icmp .ge 20, 3) := by decide +kernel
theorem dX4_hasData_8 : decode cX4_hasData 8 = .ok (.aload_n 0, 1) := by decide +kernel
theorem dX4_hasData_9 : decode cX4_hasData 9 = .ok (.iload_n 1, 1) := by decide +kernel
theorem dX4_hasData_10 : decode cX4_hasData 10 = .ok (.iload_n 2, 1) := by decide +kernel
theorem dX4_hasData_11 : decode cX4_hasData 11 = .ok (.invokevirtual 62, 3) := by decide +kernel
theorem dX4_hasData_14 : decode cX4_hasData 14 = .ok (.ifCond .eq 5, 3) := by decide +kernel
theorem dX4_hasData_17 : decode cX4_hasData 17 = .ok (.iconst 1, 1) := by decide +kernel
theorem dX4_hasData_18 : decode cX4_hasData 18 = .ok (.ireturn, 1) := by decide +kernel
theorem dX4_hasData_19 : decode cX4_hasData 19 = .ok (.iinc 2 1, 3) := by decide +kernel
theorem dX4_hasData_22 : decode cX4_hasData 22 = .ok (.goto (-20), 3) := by decide +kernel
theorem dX4_hasData_25 : decode cX4_hasData 25 = .ok (.iconst 0, 1) := by decide +kernel
theorem dX4_hasData_26 : decode cX4_hasData 26 = .ok (.ireturn, 1) := by decide +kernel
def b_X4_hasData_2 (x1 : Int32) (M : Mem) (rec : Int32 → Bool ⊕ (Int32)) (v2 : Int32) : Bool ⊕ (Int32) :=
  if 12 ≤ v2 then .inr v2
  else if (f_X4_valueNow x1 v2 M) = 0 then rec (v2 + 1)
  else .inl true
def l_X4_hasData_2 (x1 : Int32) (M : Mem) : Nat → Int32 → Bool ⊕ (Int32)
  | 0, v2 => .inr v2
  | n + 1, v2 => b_X4_hasData_2 x1 M (l_X4_hasData_2 x1 M n) v2
set_option maxRecDepth 100000 in
set_option maxHeartbeats 4000000 in
theorem kl_X4_hasData_2 (q : ZQ) (x1 : Int32) (M : Mem) {K : Bool ⊕ (Int32) → ZR} (hret : ∀ r : Bool, K (.inl r) = (wB M) r) (hx : ∀ e : Int32, Zg (zgX q) mX4_hasData 0 0 0 0 (K (.inr e)) 25 [some (.inr 0), some (.inl x1), some (.inl e)] [] M) :
    ∀ (n : Nat) (v2 : Int32), ((12 : Int32).toInt - (v2 : Int32).toInt).toNat < n → Zg (zgX q) mX4_hasData 0 0 0 0 (zlet (l_X4_hasData_2 x1 M n v2) K) 2 [some (.inr 0), some (.inl x1), some (.inl v2)] [] M := by
  intro n
  induction n with
  | zero => intro v2 hm; exact absurd hm (Nat.not_lt_zero _)
  | succ n ih =>
    intro v2 hm
    show Zg _ _ _ _ _ _ (zlet (b_X4_hasData_2 x1 M (l_X4_hasData_2 x1 M n) v2) K) _ _ _ _
    unfold b_X4_hasData_2
    refine zg_iload_n (x := v2) dX4_hasData_2 rfl ?_
    refine zg_bipush (v := 12) dX4_hasData_3 rfl ?_
    refine zg_icmpz (tgt := 25) dX4_hasData_5 rfl rfl (fun c5 => ?_) (fun c5 => ?_)
    · refine zg_st (pc' := 25) (L' := [some (.inr 0), some (.inl x1), some (.inl v2)]) (S' := []) (M' := M) rfl rfl rfl rfl ?_
      refine zg_drop (L' := [some (.inr 0), some (.inl x1), some (.inl v2)]) ⟨rfl, rfl, rfl, trivial⟩ ?_
      exact hx v2
    · refine zg_st (pc' := 8) (L' := [some (.inr 0), some (.inl x1), some (.inl v2)]) (S' := []) (M' := M) rfl rfl rfl rfl ?_
      refine zg_aload_n (x := 0) dX4_hasData_8 rfl ?_
      refine zg_iload_n (x := x1) dX4_hasData_9 rfl ?_
      refine zg_iload_n (x := v2) dX4_hasData_10 rfl ?_
      refine zg_cV1 (As := [.inl x1, .inl v2]) (S := []) (v := (f_X4_valueNow x1 v2 M)) dX4_hasData_11 zk_X4_62 (k_X4_valueNow q x1 v2 M) rfl rfl ⟨by decide, by decide⟩ ⟨by decide, by decide⟩ rfl (Nat.le_of_ble_eq_true rfl) ?_
      refine zg_st (pc' := 14) (L' := [some (.inr 0), some (.inl x1), some (.inl v2)]) (S' := [.inl (f_X4_valueNow x1 v2 M)]) (M' := M) rfl rfl rfl rfl ?_
      refine zg_ifz (tgt := 19) dX4_hasData_14 rfl rfl (fun c14 => ?_) (fun c14 => ?_)
      · refine zg_st (pc' := 19) (L' := [some (.inr 0), some (.inl x1), some (.inl v2)]) (S' := []) (M' := M) rfl rfl rfl rfl ?_
        refine zg_iinc (v := (v2 + 1)) dX4_hasData_19 rfl (by decide) rfl ?_
        refine zg_st (pc' := 22) (L' := [some (.inr 0), some (.inl x1), some (.inl (v2 + 1))]) (S' := []) (M' := M) rfl rfl rfl rfl ?_
        refine zg_goto (tgt := 2) dX4_hasData_22 rfl ?_
        refine zg_st (pc' := 2) (L' := [some (.inr 0), some (.inl x1), some (.inl (v2 + 1))]) (S' := []) (M' := M) rfl rfl rfl rfl ?_
        refine zg_drop (L' := [some (.inr 0), some (.inl x1), some (.inl (v2 + 1))]) ⟨rfl, rfl, rfl, trivial⟩ ?_
        exact ih (v2 + 1) (z_up c5 hm)
      · refine zg_st (pc' := 17) (L' := [some (.inr 0), some (.inl x1), some (.inl v2)]) (S' := []) (M' := M) rfl rfl rfl rfl ?_
        refine zg_iconst (v := 1) dX4_hasData_17 rfl ?_
        exact zg_iret dX4_hasData_18 rfl rfl ⟨by decide, by decide⟩ (hret _)
def f_X4_hasData (p1 : Int32) (M : Mem) : Bool :=
  zlet (l_X4_hasData_2 p1 M 13 0) (fun s1 => Sum.elim (fun r => r) (fun e_s1 =>
  false) s1)
set_option maxRecDepth 100000 in
set_option maxHeartbeats 4000000 in
theorem k_X4_hasData (q : ZQ) (p1 : Int32) (M : Mem) : Zc (zgX q) mX4_hasData 0 0 [.inr 0, .inl p1] M (wB M (f_X4_hasData p1 M)) := by
  refine Zc.of (by decide) zi_X4_hasData.1 (Nat.le_of_ble_eq_true rfl) rfl ?_
  show Zg _ _ _ _ _ _ (zlet (f_X4_hasData p1 M) (wB M)) _ _ _ _
  unfold f_X4_hasData
  refine zg_iconst (v := 0) dX4_hasData_0 rfl ?_
  refine zg_istore_n dX4_hasData_1 (by decide) ?_
  refine zg_st (pc' := 2) (L' := [some (.inr 0), some (.inl p1), some (.inl 0)]) (S' := []) (M' := M) rfl rfl rfl rfl ?_
  refine zg_asc ?_
  refine zg_drop (L' := [some (.inr 0), some (.inl p1), some (.inl 0)]) ⟨rfl, rfl, rfl, trivial⟩ ?_
  refine kl_X4_hasData_2 q p1 M ?_ (fun e_s1 => ?_) 13 0 (by decide)
  · exact fun r => rfl
  try dsimp only [Sum.elim_inr]
  refine zg_st (pc' := 25) (L' := [some (.inr 0), some (.inl p1), some (.inl e_s1)]) (S' := []) (M' := M) rfl rfl rfl rfl ?_
  refine zg_iconst (v := 0) dX4_hasData_25 rfl ?_
  exact zg_iret dX4_hasData_26 rfl rfl ⟨by decide, by decide⟩ rfl
theorem dX4_chooseForFile_0 : decode cX4_chooseForFile 0 = .ok (.iload_n 1, 1) := by decide +kernel
theorem dX4_chooseForFile_1 : decode cX4_chooseForFile 1 = .ok (.invokestatic 79, 3) := by decide +kernel
theorem dX4_chooseForFile_4 : decode cX4_chooseForFile 4 = .ok (.ifCond .eq 12, 3) := by decide +kernel
theorem dX4_chooseForFile_7 : decode cX4_chooseForFile 7 = .ok (.aload_n 0, 1) := by decide +kernel
theorem dX4_chooseForFile_8 : decode cX4_chooseForFile 8 = .ok (.getfield 37, 3) := by decide +kernel
theorem dX4_chooseForFile_11 : decode cX4_chooseForFile 11 = .ok (.iload_n 1, 1) := by decide +kernel
theorem dX4_chooseForFile_12 : decode cX4_chooseForFile 12 = .ok (.iaload, 1) := by decide +kernel
theorem dX4_chooseForFile_13 : decode cX4_chooseForFile 13 = .ok (.goto 4, 3) := by decide +kernel
theorem dX4_chooseForFile_16 : decode cX4_chooseForFile 16 = .ok (.iconst 1, 1) := by decide +kernel
theorem dX4_chooseForFile_17 : decode cX4_chooseForFile 17 = .ok (.istore_n 2, 1) := by decide +kernel
theorem dX4_chooseForFile_18 : decode cX4_chooseForFile 18 = .ok (.iconst 0, 1) := by decide +kernel
theorem dX4_chooseForFile_19 : decode cX4_chooseForFile 19 = .ok (.istore_n 3, 1) := by decide +kernel
theorem dX4_chooseForFile_20 : decode cX4_chooseForFile 20 = .ok (.iload_n 3, 1) := by decide +kernel
theorem dX4_chooseForFile_21 : decode cX4_chooseForFile 21 = .ok (.bipush 12, 2) := by decide +kernel
theorem dX4_chooseForFile_23 : decode cX4_chooseForFile 23 = .ok (.if_icmp .ge 71, 3) := by decide +kernel
theorem dX4_chooseForFile_26 : decode cX4_chooseForFile 26 = .ok (.iload_n 1, 1) := by decide +kernel
theorem dX4_chooseForFile_27 : decode cX4_chooseForFile 27 = .ok (.iload_n 3, 1) := by decide +kernel
theorem dX4_chooseForFile_28 : decode cX4_chooseForFile 28 = .ok (.invokestatic 66, 3) := by decide +kernel
theorem dX4_chooseForFile_31 : decode cX4_chooseForFile 31 = .ok (.istore 4, 2) := by decide +kernel
theorem dX4_chooseForFile_33 : decode cX4_chooseForFile 33 = .ok (.aload_n 0, 1) := by decide +kernel
theorem dX4_chooseForFile_34 : decode cX4_chooseForFile 34 = .ok (.getfield 26, 3) := by decide +kernel
theorem dX4_chooseForFile_37 : decode cX4_chooseForFile 37 = .ok (.iload 4, 2) := by decide +kernel
theorem dX4_chooseForFile_39 : decode cX4_chooseForFile 39 = .ok (.invokevirtual 86, 3) := by decide +kernel
theorem dX4_chooseForFile_42 : decode cX4_chooseForFile 42 = .ok (.ifCond .eq 19, 3) := by decide +kernel
theorem dX4_chooseForFile_45 : decode cX4_chooseForFile 45 = .ok (.aload_n 0, 1) := by decide +kernel
theorem dX4_chooseForFile_46 : decode cX4_chooseForFile 46 = .ok (.getfield 26, 3) := by decide +kernel
theorem dX4_chooseForFile_49 : decode cX4_chooseForFile 49 = .ok (.iload 4, 2) := by decide +kernel
theorem dX4_chooseForFile_51 : decode cX4_chooseForFile 51 = .ok (.invokevirtual 89, 3) := by decide +kernel
theorem dX4_chooseForFile_54 : decode cX4_chooseForFile 54 = .ok (.ifCond .eq 7, 3) := by decide +kernel
theorem dX4_chooseForFile_57 : decode cX4_chooseForFile 57 = .ok (.iconst 1, 1) := by decide +kernel
theorem dX4_chooseForFile_58 : decode cX4_chooseForFile 58 = .ok (.goto 4, 3) := by decide +kernel
theorem dX4_chooseForFile_61 : decode cX4_chooseForFile 61 = .ok (.iconst 0, 1) := by decide +kernel
theorem dX4_chooseForFile_62 : decode cX4_chooseForFile 62 = .ok (.istore 5, 2) := by decide +kernel
theorem dX4_chooseForFile_64 : decode cX4_chooseForFile 64 = .ok (.iload 5, 2) := by decide +kernel
theorem dX4_chooseForFile_66 : decode cX4_chooseForFile 66 = .ok (.ifCond .eq 22, 3) := by decide +kernel
theorem dX4_chooseForFile_69 : decode cX4_chooseForFile 69 = .ok (.aload_n 0, 1) := by decide +kernel
theorem dX4_chooseForFile_70 : decode cX4_chooseForFile 70 = .ok (.getfield 33, 3) := by decide +kernel
theorem dX4_chooseForFile_73 : decode cX4_chooseForFile 73 = .ok (.aload_n 0, 1) := by decide +kernel
theorem dX4_chooseForFile_74 : decode cX4_chooseForFile 74 = .ok (.getfield 12, 3) := by decide +kernel
theorem dX4_chooseForFile_77 : decode cX4_chooseForFile 77 = .ok (.iload 4, 2) := by decide +kernel
theorem dX4_chooseForFile_79 : decode cX4_chooseForFile 79 = .ok (.iload_n 2, 1) := by decide +kernel
theorem dX4_chooseForFile_80 : decode cX4_chooseForFile 80 = .ok (.invokevirtual 253, 3) := by decide +kernel
theorem dX4_chooseForFile_83 : decode cX4_chooseForFile 83 = .ok (.ifCond .ne 5, 3) := by decide +kernel
theorem dX4_chooseForFile_86 : decode cX4_chooseForFile 86 = .ok (.iconst 0, 1) := by decide +kernel
theorem dX4_chooseForFile_87 : decode cX4_chooseForFile 87 = .ok (.ireturn, 1) := by decide +kernel
theorem dX4_chooseForFile_88 : decode cX4_chooseForFile 88 = .ok (.iinc 3 1, 3) := by decide +kernel
theorem dX4_chooseForFile_91 : decode cX4_chooseForFile 91 = .ok (.goto (-71), 3) := by decide +kernel
theorem dX4_chooseForFile_94 : decode cX4_chooseForFile 94 = .ok (.aload_n 0, 1) := by decide +kernel
theorem dX4_chooseForFile_95 : decode cX4_chooseForFile 95 = .ok (.iload_n 1, 1) := by decide +kernel
theorem dX4_chooseForFile_96 : decode cX4_chooseForFile 96 = .ok (.invokevirtual 231, 3) := by decide +kernel
theorem dX4_chooseForFile_99 : decode cX4_chooseForFile 99 = .ok (.ifCond .eq 22, 3) := by decide +kernel
theorem dX4_chooseForFile_102 : decode cX4_chooseForFile 102 = .ok (.aload_n 0, 1) := by decide +kernel
theorem dX4_chooseForFile_103 : decode cX4_chooseForFile 103 = .ok (.getfield 33, 3) := by decide +kernel
theorem dX4_chooseForFile_106 : decode cX4_chooseForFile 106 = .ok (.aload_n 0, 1) := by decide +kernel
theorem dX4_chooseForFile_107 : decode cX4_chooseForFile 107 = .ok (.getfield 12, 3) := by decide +kernel
theorem dX4_chooseForFile_110 : decode cX4_chooseForFile 110 = .ok (.iload_n 1, 1) := by decide +kernel
theorem dX4_chooseForFile_111 : decode cX4_chooseForFile 111 = .ok (.invokestatic 93, 3) := by decide +kernel
theorem dX4_chooseForFile_114 : decode cX4_chooseForFile 114 = .ok (.iconst 2, 1) := by decide +kernel
theorem dX4_chooseForFile_115 : decode cX4_chooseForFile 115 = .ok (.invokevirtual 253, 3) := by decide +kernel
theorem dX4_chooseForFile_118 : decode cX4_chooseForFile 118 = .ok (.ifCond .eq 7, 3) := by decide +kernel
theorem dX4_chooseForFile_121 : decode cX4_chooseForFile 121 = .ok (.iconst 1, 1) := by decide +kernel
theorem dX4_chooseForFile_122 : decode cX4_chooseForFile 122 = .ok (.goto 4, 3) := by decide +kernel
theorem dX4_chooseForFile_125 : decode cX4_chooseForFile 125 = .ok (.iconst 0, 1) := by decide +kernel
theorem dX4_chooseForFile_126 : decode cX4_chooseForFile 126 = .ok (.ireturn, 1) := by decide +kernel
def b_X4_chooseForFile_20 (x1 : Int32) (x2 : Int32) (rec : Int32 → Mem → (Bool × Mem) ⊕ (Int32 × Mem)) (v3 : Int32) (N : Mem) : (Bool × Mem) ⊕ (Int32 × Mem) :=
  if 12 ≤ v3 then .inr (v3, N)
  else zlet (if (f_X2_holds (f_X4_blockPointer x1 v3) N) then if (f_X2_changeOf (f_X4_blockPointer x1 v3) N) = 0 then false
      else true
    else false) (fun (j3 : Bool) =>
  if j3 then zlet (f_X1_choose (f_X4_blockPointer x1 v3) x2 N) (fun q5 =>
      if q5.1 then rec (v3 + 1) q5.2
        else .inl (false, q5.2))
    else rec (v3 + 1) N)
def l_X4_chooseForFile_20 (x1 : Int32) (x2 : Int32) : Nat → Int32 → Mem → (Bool × Mem) ⊕ (Int32 × Mem)
  | 0, v3, N => .inr (v3, N)
  | n + 1, v3, N => b_X4_chooseForFile_20 x1 x2 (l_X4_chooseForFile_20 x1 x2 n) v3 N
set_option maxRecDepth 100000 in
set_option maxHeartbeats 4000000 in
theorem kl_X4_chooseForFile_20 (q : ZQ) (x1 : Int32) (x2 : Int32) {K : (Bool × Mem) ⊕ (Int32 × Mem) → ZR} (hret : ∀ r : (Bool × Mem), K (.inl r) = wBM r) (hx : ∀ e : Int32 × Mem, Zg (zgX q) mX4_chooseForFile 0 0 0 0 (K (.inr e)) 94 [some (.inr 0), some (.inl x1), some (.inl x2), some (.inl e.1), none, none] [] e.2) :
    ∀ (n : Nat) (v3 : Int32) (N : Mem), ((12 : Int32).toInt - (v3 : Int32).toInt).toNat < n → Zg (zgX q) mX4_chooseForFile 0 0 0 0 (zlet (l_X4_chooseForFile_20 x1 x2 n v3 N) K) 20 [some (.inr 0), some (.inl x1), some (.inl x2), some (.inl v3), none, none] [] N := by
  intro n
  induction n with
  | zero => intro v3 N hm; exact absurd hm (Nat.not_lt_zero _)
  | succ n ih =>
    intro v3 N hm
    show Zg _ _ _ _ _ _ (zlet (b_X4_chooseForFile_20 x1 x2 (l_X4_chooseForFile_20 x1 x2 n) v3 N) K) _ _ _ _
    unfold b_X4_chooseForFile_20
    refine zg_iload_n (x := v3) dX4_chooseForFile_20 rfl ?_
    refine zg_bipush (v := 12) dX4_chooseForFile_21 rfl ?_
    refine zg_icmpz (tgt := 94) dX4_chooseForFile_23 rfl rfl (fun c23 => ?_) (fun c23 => ?_)
    · refine zg_st (pc' := 94) (L' := [some (.inr 0), some (.inl x1), some (.inl x2), some (.inl v3), none, none]) (S' := []) (M' := N) rfl rfl rfl rfl ?_
      refine zg_drop (L' := [some (.inr 0), some (.inl x1), some (.inl x2), some (.inl v3), none, none]) ⟨rfl, rfl, rfl, rfl, trivial⟩ ?_
      exact hx (v3, N)
    · refine zg_st (pc' := 26) (L' := [some (.inr 0), some (.inl x1), some (.inl x2), some (.inl v3), none, none]) (S' := []) (M' := N) rfl rfl rfl rfl ?_
      refine zg_iload_n (x := x1) dX4_chooseForFile_26 rfl ?_
      refine zg_iload_n (x := v3) dX4_chooseForFile_27 rfl ?_
      refine zg_cS1 (As := [.inl x1, .inl v3]) (S := []) (v := (f_X4_blockPointer x1 v3)) dX4_chooseForFile_28 zk_X4_66 (k_X4_blockPointer q x1 v3 N) rfl ⟨by decide, by decide⟩ ⟨by decide, by decide⟩ rfl (Nat.le_of_ble_eq_true rfl) ?_
      refine zg_st (pc' := 31) (L' := [some (.inr 0), some (.inl x1), some (.inl x2), some (.inl v3), none, none]) (S' := [.inl (f_X4_blockPointer x1 v3)]) (M' := N) rfl rfl rfl rfl ?_
      refine zg_istore dX4_chooseForFile_31 (by decide) ?_
      refine zg_st (pc' := 33) (L' := [some (.inr 0), some (.inl x1), some (.inl x2), some (.inl v3), some (.inl (f_X4_blockPointer x1 v3)), none]) (S' := []) (M' := N) rfl rfl rfl rfl ?_
      refine zg_aload_n (x := 0) dX4_chooseForFile_33 rfl ?_
      refine zg_getf (v := .inr 3) dX4_chooseForFile_34 zf_X4_26 rfl rfl rfl ?_
      refine zg_iload (x := (f_X4_blockPointer x1 v3)) dX4_chooseForFile_37 rfl ?_
      refine zg_cV1 (As := [.inl (f_X4_blockPointer x1 v3)]) (S := []) (v := bI ((f_X2_holds (f_X4_blockPointer x1 v3) N))) dX4_chooseForFile_39 zk_X4_86 (k_X2_holds q (f_X4_blockPointer x1 v3) N) rfl rfl ⟨by decide, by decide⟩ ⟨by decide, by decide⟩ rfl (Nat.le_of_ble_eq_true rfl) ?_
      refine zg_st (pc' := 42) (L' := [some (.inr 0), some (.inl x1), some (.inl x2), some (.inl v3), some (.inl (f_X4_blockPointer x1 v3)), none]) (S' := [.inl (bI ((f_X2_holds (f_X4_blockPointer x1 v3) N)))]) (M' := N) rfl rfl rfl rfl ?_
      refine zg_join (pc' := 62) (Lf := fun (j3 : Bool) => [some (.inr 0), some (.inl x1), some (.inl x2), some (.inl v3), some (.inl (f_X4_blockPointer x1 v3)), none]) (Sf := fun j3 => [.inl (bI j3)]) (Mf := fun j3 => N) (fun (j3 : Bool) => ?_) (fun J4 => ?_)
      · try dsimp only
        refine zg_istore dX4_chooseForFile_62 (by decide) ?_
        refine zg_st (pc' := 64) (L' := [some (.inr 0), some (.inl x1), some (.inl x2), some (.inl v3), some (.inl (f_X4_blockPointer x1 v3)), some (.inl (bI j3))]) (S' := []) (M' := N) rfl rfl rfl rfl ?_
        refine zg_iload (x := bI j3) dX4_chooseForFile_64 rfl ?_
        refine zg_ifbe (tgt := 88) dX4_chooseForFile_66 rfl (fun c66 => ?_) (fun c66 => ?_)
        · refine zg_st (pc' := 69) (L' := [some (.inr 0), some (.inl x1), some (.inl x2), some (.inl v3), some (.inl (f_X4_blockPointer x1 v3)), some (.inl (bI j3))]) (S' := []) (M' := N) rfl rfl rfl rfl ?_
          refine zg_aload_n (x := 0) dX4_chooseForFile_69 rfl ?_
          refine zg_getf (v := .inr 4) dX4_chooseForFile_70 zf_X4_33 rfl rfl rfl ?_
          refine zg_aload_n (x := 0) dX4_chooseForFile_73 rfl ?_
          refine zg_getf (v := .inr 1) dX4_chooseForFile_74 zf_X4_12 rfl rfl rfl ?_
          refine zg_iload (x := (f_X4_blockPointer x1 v3)) dX4_chooseForFile_77 rfl ?_
          refine zg_iload_n (x := x2) dX4_chooseForFile_79 rfl ?_
          refine zg_cVBM (As := [.inr 1, .inl (f_X4_blockPointer x1 v3), .inl x2]) (S := []) dX4_chooseForFile_80 zk_X4_253 (k_X1_choose q (f_X4_blockPointer x1 v3) x2 N) rfl rfl ⟨by decide, by decide⟩ ⟨by decide, by decide⟩ rfl (Nat.le_of_ble_eq_true rfl) (fun q5 e_q5 => ?_)
          try dsimp only
          refine zg_st (pc' := 83) (L' := [some (.inr 0), some (.inl x1), some (.inl x2), some (.inl v3), some (.inl (f_X4_blockPointer x1 v3)), some (.inl (bI j3))]) (S' := [.inl (bI q5.1)]) (M' := q5.2) rfl rfl rfl rfl ?_
          refine zg_ifbn (tgt := 88) dX4_chooseForFile_83 rfl (fun c83 => ?_) (fun c83 => ?_)
          · refine zg_st (pc' := 88) (L' := [some (.inr 0), some (.inl x1), some (.inl x2), some (.inl v3), some (.inl (f_X4_blockPointer x1 v3)), some (.inl (bI j3))]) (S' := []) (M' := q5.2) rfl rfl rfl rfl ?_
            refine zg_iinc (v := (v3 + 1)) dX4_chooseForFile_88 rfl (by decide) rfl ?_
            refine zg_st (pc' := 91) (L' := [some (.inr 0), some (.inl x1), some (.inl x2), some (.inl (v3 + 1)), some (.inl (f_X4_blockPointer x1 v3)), some (.inl (bI j3))]) (S' := []) (M' := q5.2) rfl rfl rfl rfl ?_
            refine zg_goto (tgt := 20) dX4_chooseForFile_91 rfl ?_
            refine zg_st (pc' := 20) (L' := [some (.inr 0), some (.inl x1), some (.inl x2), some (.inl (v3 + 1)), some (.inl (f_X4_blockPointer x1 v3)), some (.inl (bI j3))]) (S' := []) (M' := q5.2) rfl rfl rfl rfl ?_
            refine zg_drop (L' := [some (.inr 0), some (.inl x1), some (.inl x2), some (.inl (v3 + 1)), none, none]) ⟨rfl, rfl, rfl, rfl, trivial⟩ ?_
            exact ih (v3 + 1) q5.2 (z_up c23 hm)
          · refine zg_st (pc' := 86) (L' := [some (.inr 0), some (.inl x1), some (.inl x2), some (.inl v3), some (.inl (f_X4_blockPointer x1 v3)), some (.inl (bI j3))]) (S' := []) (M' := q5.2) rfl rfl rfl rfl ?_
            refine zg_iconst (v := 0) dX4_chooseForFile_86 rfl ?_
            exact zg_iret dX4_chooseForFile_87 rfl rfl ⟨by decide, by decide⟩ (hret _)
        · refine zg_st (pc' := 88) (L' := [some (.inr 0), some (.inl x1), some (.inl x2), some (.inl v3), some (.inl (f_X4_blockPointer x1 v3)), some (.inl (bI j3))]) (S' := []) (M' := N) rfl rfl rfl rfl ?_
          refine zg_iinc (v := (v3 + 1)) dX4_chooseForFile_88 rfl (by decide) rfl ?_
          refine zg_st (pc' := 91) (L' := [some (.inr 0), some (.inl x1), some (.inl x2), some (.inl (v3 + 1)), some (.inl (f_X4_blockPointer x1 v3)), some (.inl (bI j3))]) (S' := []) (M' := N) rfl rfl rfl rfl ?_
          refine zg_goto (tgt := 20) dX4_chooseForFile_91 rfl ?_
          refine zg_st (pc' := 20) (L' := [some (.inr 0), some (.inl x1), some (.inl x2), some (.inl (v3 + 1)), some (.inl (f_X4_blockPointer x1 v3)), some (.inl (bI j3))]) (S' := []) (M' := N) rfl rfl rfl rfl ?_
          refine zg_drop (L' := [some (.inr 0), some (.inl x1), some (.inl x2), some (.inl (v3 + 1)), none, none]) ⟨rfl, rfl, rfl, rfl, trivial⟩ ?_
          exact ih (v3 + 1) N (z_up c23 hm)
      · refine zg_ifbe (tgt := 61) dX4_chooseForFile_42 rfl (fun c42 => ?_) (fun c42 => ?_)
        · refine zg_st (pc' := 45) (L' := [some (.inr 0), some (.inl x1), some (.inl x2), some (.inl v3), some (.inl (f_X4_blockPointer x1 v3)), none]) (S' := []) (M' := N) rfl rfl rfl rfl ?_
          refine zg_aload_n (x := 0) dX4_chooseForFile_45 rfl ?_
          refine zg_getf (v := .inr 3) dX4_chooseForFile_46 zf_X4_26 rfl rfl rfl ?_
          refine zg_iload (x := (f_X4_blockPointer x1 v3)) dX4_chooseForFile_49 rfl ?_
          refine zg_cV1 (As := [.inl (f_X4_blockPointer x1 v3)]) (S := []) (v := (f_X2_changeOf (f_X4_blockPointer x1 v3) N)) dX4_chooseForFile_51 zk_X4_89 (k_X2_changeOf q (f_X4_blockPointer x1 v3) N) rfl rfl ⟨by decide, by decide⟩ ⟨by decide, by decide⟩ rfl (Nat.le_of_ble_eq_true rfl) ?_
          refine zg_st (pc' := 54) (L' := [some (.inr 0), some (.inl x1), some (.inl x2), some (.inl v3), some (.inl (f_X4_blockPointer x1 v3)), none]) (S' := [.inl (f_X2_changeOf (f_X4_blockPointer x1 v3) N)]) (M' := N) rfl rfl rfl rfl ?_
          refine zg_ifz (tgt := 61) dX4_chooseForFile_54 rfl rfl (fun c54 => ?_) (fun c54 => ?_)
          · refine zg_st (pc' := 61) (L' := [some (.inr 0), some (.inl x1), some (.inl x2), some (.inl v3), some (.inl (f_X4_blockPointer x1 v3)), none]) (S' := []) (M' := N) rfl rfl rfl rfl ?_
            refine zg_iconst (v := 0) dX4_chooseForFile_61 rfl ?_
            refine zg_drop (L' := [some (.inr 0), some (.inl x1), some (.inl x2), some (.inl v3), some (.inl (f_X4_blockPointer x1 v3)), none]) ⟨rfl, rfl, rfl, rfl, rfl, trivial⟩ ?_
            exact J4 false
          · refine zg_st (pc' := 57) (L' := [some (.inr 0), some (.inl x1), some (.inl x2), some (.inl v3), some (.inl (f_X4_blockPointer x1 v3)), none]) (S' := []) (M' := N) rfl rfl rfl rfl ?_
            refine zg_iconst (v := 1) dX4_chooseForFile_57 rfl ?_
            refine zg_goto (tgt := 62) dX4_chooseForFile_58 rfl ?_
            refine zg_st (pc' := 62) (L' := [some (.inr 0), some (.inl x1), some (.inl x2), some (.inl v3), some (.inl (f_X4_blockPointer x1 v3)), none]) (S' := [.inl 1]) (M' := N) rfl rfl rfl rfl ?_
            refine zg_drop (L' := [some (.inr 0), some (.inl x1), some (.inl x2), some (.inl v3), some (.inl (f_X4_blockPointer x1 v3)), none]) ⟨rfl, rfl, rfl, rfl, rfl, trivial⟩ ?_
            exact J4 true
        · refine zg_st (pc' := 61) (L' := [some (.inr 0), some (.inl x1), some (.inl x2), some (.inl v3), some (.inl (f_X4_blockPointer x1 v3)), none]) (S' := []) (M' := N) rfl rfl rfl rfl ?_
          refine zg_iconst (v := 0) dX4_chooseForFile_61 rfl ?_
          refine zg_drop (L' := [some (.inr 0), some (.inl x1), some (.inl x2), some (.inl v3), some (.inl (f_X4_blockPointer x1 v3)), none]) ⟨rfl, rfl, rfl, rfl, rfl, trivial⟩ ?_
          exact J4 false
def f_X4_chooseForFile (p1 : Int32) (M : Mem) : (Bool × Mem) :=
  zlet (if (f_X4_isFile p1) then (M 5 p1.toNatClampNeg)
    else (1 : Int32)) (fun (j1 : Int32) =>
  zlet (l_X4_chooseForFile_20 p1 j1 13 0 M) (fun s6 => Sum.elim (fun r => r) (fun e_s6 =>
    if (f_X4_hasData p1 e_s6.2) then zlet (f_X1_choose (f_X4_filePointer p1) 2 e_s6.2) (fun q7 =>
        if q7.1 then (true, q7.2)
          else (false, q7.2))
      else (true, e_s6.2)) s6))
set_option maxRecDepth 100000 in
set_option maxHeartbeats 4000000 in
theorem k_X4_chooseForFile (q : ZQ) (p1 : Int32) (M : Mem) : Zc (zgX q) mX4_chooseForFile 0 0 [.inr 0, .inl p1] M (wBM (f_X4_chooseForFile p1 M)) := by
  refine Zc.of (by decide) zi_X4_chooseForFile.1 (Nat.le_of_ble_eq_true rfl) rfl ?_
  show Zg _ _ _ _ _ _ (zlet (f_X4_chooseForFile p1 M) wBM) _ _ _ _
  unfold f_X4_chooseForFile
  refine zg_iload_n (x := p1) dX4_chooseForFile_0 rfl ?_
  refine zg_cS1 (As := [.inl p1]) (S := []) (v := bI ((f_X4_isFile p1))) dX4_chooseForFile_1 zk_X4_79 (k_X4_isFile q p1 M) rfl ⟨by decide, by decide⟩ ⟨by decide, by decide⟩ rfl (Nat.le_of_ble_eq_true rfl) ?_
  refine zg_st (pc' := 4) (L' := [some (.inr 0), some (.inl p1), none, none, none, none]) (S' := [.inl (bI ((f_X4_isFile p1)))]) (M' := M) rfl rfl rfl rfl ?_
  refine zg_join (pc' := 17) (Lf := fun (j1 : Int32) => [some (.inr 0), some (.inl p1), none, none, none, none]) (Sf := fun j1 => [.inl j1]) (Mf := fun j1 => M) (fun (j1 : Int32) => ?_) (fun J2 => ?_)
  · try dsimp only
    refine zg_istore_n dX4_chooseForFile_17 (by decide) ?_
    refine zg_st (pc' := 18) (L' := [some (.inr 0), some (.inl p1), some (.inl j1), none, none, none]) (S' := []) (M' := M) rfl rfl rfl rfl ?_
    refine zg_iconst (v := 0) dX4_chooseForFile_18 rfl ?_
    refine zg_istore_n dX4_chooseForFile_19 (by decide) ?_
    refine zg_st (pc' := 20) (L' := [some (.inr 0), some (.inl p1), some (.inl j1), some (.inl 0), none, none]) (S' := []) (M' := M) rfl rfl rfl rfl ?_
    refine zg_asc ?_
    refine zg_drop (L' := [some (.inr 0), some (.inl p1), some (.inl j1), some (.inl 0), none, none]) ⟨rfl, rfl, rfl, rfl, trivial⟩ ?_
    refine kl_X4_chooseForFile_20 q p1 j1  ?_ (fun e_s6 => ?_) 13 0 M (by decide)
    · exact fun r => rfl
    try dsimp only [Sum.elim_inr]
    refine zg_st (pc' := 94) (L' := [some (.inr 0), some (.inl p1), some (.inl j1), some (.inl e_s6.1), none, none]) (S' := []) (M' := e_s6.2) rfl rfl rfl rfl ?_
    refine zg_aload_n (x := 0) dX4_chooseForFile_94 rfl ?_
    refine zg_iload_n (x := p1) dX4_chooseForFile_95 rfl ?_
    refine zg_cV1 (As := [.inl p1]) (S := []) (v := bI ((f_X4_hasData p1 e_s6.2))) dX4_chooseForFile_96 zk_X4_231 (k_X4_hasData q p1 e_s6.2) rfl rfl ⟨by decide, by decide⟩ ⟨by decide, by decide⟩ rfl (Nat.le_of_ble_eq_true rfl) ?_
    refine zg_st (pc' := 99) (L' := [some (.inr 0), some (.inl p1), some (.inl j1), some (.inl e_s6.1), none, none]) (S' := [.inl (bI ((f_X4_hasData p1 e_s6.2)))]) (M' := e_s6.2) rfl rfl rfl rfl ?_
    refine zg_ifbe (tgt := 121) dX4_chooseForFile_99 rfl (fun c99 => ?_) (fun c99 => ?_)
    · refine zg_st (pc' := 102) (L' := [some (.inr 0), some (.inl p1), some (.inl j1), some (.inl e_s6.1), none, none]) (S' := []) (M' := e_s6.2) rfl rfl rfl rfl ?_
      refine zg_aload_n (x := 0) dX4_chooseForFile_102 rfl ?_
      refine zg_getf (v := .inr 4) dX4_chooseForFile_103 zf_X4_33 rfl rfl rfl ?_
      refine zg_aload_n (x := 0) dX4_chooseForFile_106 rfl ?_
      refine zg_getf (v := .inr 1) dX4_chooseForFile_107 zf_X4_12 rfl rfl rfl ?_
      refine zg_iload_n (x := p1) dX4_chooseForFile_110 rfl ?_
      refine zg_cS1 (As := [.inl p1]) (S := [.inr 1, .inr 4]) (v := (f_X4_filePointer p1)) dX4_chooseForFile_111 zk_X4_93 (k_X4_filePointer q p1 e_s6.2) rfl ⟨by decide, by decide⟩ ⟨by decide, by decide⟩ rfl (Nat.le_of_ble_eq_true rfl) ?_
      refine zg_st (pc' := 114) (L' := [some (.inr 0), some (.inl p1), some (.inl j1), some (.inl e_s6.1), none, none]) (S' := [.inl (f_X4_filePointer p1), .inr 1, .inr 4]) (M' := e_s6.2) rfl rfl rfl rfl ?_
      refine zg_iconst (v := 2) dX4_chooseForFile_114 rfl ?_
      refine zg_cVBM (As := [.inr 1, .inl (f_X4_filePointer p1), .inl 2]) (S := []) dX4_chooseForFile_115 zk_X4_253 (k_X1_choose q (f_X4_filePointer p1) 2 e_s6.2) rfl rfl ⟨by decide, by decide⟩ ⟨by decide, by decide⟩ rfl (Nat.le_of_ble_eq_true rfl) (fun q7 e_q7 => ?_)
      try dsimp only
      refine zg_st (pc' := 118) (L' := [some (.inr 0), some (.inl p1), some (.inl j1), some (.inl e_s6.1), none, none]) (S' := [.inl (bI q7.1)]) (M' := q7.2) rfl rfl rfl rfl ?_
      refine zg_ifbe (tgt := 125) dX4_chooseForFile_118 rfl (fun c118 => ?_) (fun c118 => ?_)
      · refine zg_st (pc' := 121) (L' := [some (.inr 0), some (.inl p1), some (.inl j1), some (.inl e_s6.1), none, none]) (S' := []) (M' := q7.2) rfl rfl rfl rfl ?_
        refine zg_iconst (v := 1) dX4_chooseForFile_121 rfl ?_
        refine zg_goto (tgt := 126) dX4_chooseForFile_122 rfl ?_
        refine zg_st (pc' := 126) (L' := [some (.inr 0), some (.inl p1), some (.inl j1), some (.inl e_s6.1), none, none]) (S' := [.inl 1]) (M' := q7.2) rfl rfl rfl rfl ?_
        exact zg_iret dX4_chooseForFile_126 rfl rfl ⟨by decide, by decide⟩ rfl
      · refine zg_st (pc' := 125) (L' := [some (.inr 0), some (.inl p1), some (.inl j1), some (.inl e_s6.1), none, none]) (S' := []) (M' := q7.2) rfl rfl rfl rfl ?_
        refine zg_iconst (v := 0) dX4_chooseForFile_125 rfl ?_
        exact zg_iret dX4_chooseForFile_126 rfl rfl ⟨by decide, by decide⟩ rfl
    · refine zg_st (pc' := 121) (L' := [some (.inr 0), some (.inl p1), some (.inl j1), some (.inl e_s6.1), none, none]) (S' := []) (M' := e_s6.2) rfl rfl rfl rfl ?_
      refine zg_iconst (v := 1) dX4_chooseForFile_121 rfl ?_
      refine zg_goto (tgt := 126) dX4_chooseForFile_122 rfl ?_
      refine zg_st (pc' := 126) (L' := [some (.inr 0), some (.inl p1), some (.inl j1), some (.inl e_s6.1), none, none]) (S' := [.inl 1]) (M' := e_s6.2) rfl rfl rfl rfl ?_
      exact zg_iret dX4_chooseForFile_126 rfl rfl ⟨by decide, by decide⟩ rfl
  · refine zg_ifbe (tgt := 16) dX4_chooseForFile_4 rfl (fun c4 => ?_) (fun c4 => ?_)
    · refine zg_st (pc' := 7) (L' := [some (.inr 0), some (.inl p1), none, none, none, none]) (S' := []) (M' := M) rfl rfl rfl rfl ?_
      refine zg_aload_n (x := 0) dX4_chooseForFile_7 rfl ?_
      refine zg_getf (v := .inr 5) dX4_chooseForFile_8 zf_X4_37 rfl rfl rfl ?_
      refine zg_iload_n (x := p1) dX4_chooseForFile_11 rfl ?_
      refine zg_iald dX4_chooseForFile_12 rfl (by simp only [q_isFile, q_isBlock, q_isBlockOfFile, q_isMirror, q_isSideOfMirror, q_isCell, q_isPlaceNumber, q_isCellOnSide, q_isPointer, q_isBlockPointer, vp_in_iff, Int32.lt_iff_toInt_lt, Int32.le_iff_toInt_le, Int32.reduceToInt] at c4 ⊢; omega) ?_
      refine zg_goto (tgt := 17) dX4_chooseForFile_13 rfl ?_
      refine zg_st (pc' := 17) (L' := [some (.inr 0), some (.inl p1), none, none, none, none]) (S' := [.inl (M 5 p1.toNatClampNeg)]) (M' := M) rfl rfl rfl rfl ?_
      refine zg_drop (L' := [some (.inr 0), some (.inl p1), none, none, none, none]) ⟨rfl, rfl, trivial⟩ ?_
      exact J2 (M 5 p1.toNatClampNeg)
    · refine zg_st (pc' := 16) (L' := [some (.inr 0), some (.inl p1), none, none, none, none]) (S' := []) (M' := M) rfl rfl rfl rfl ?_
      refine zg_iconst (v := 1) dX4_chooseForFile_16 rfl ?_
      refine zg_drop (L' := [some (.inr 0), some (.inl p1), none, none, none, none]) ⟨rfl, rfl, trivial⟩ ?_
      exact J2 (1 : Int32)
theorem dX4_hasDataAnywhere_0 : decode cX4_hasDataAnywhere 0 = .ok (.iconst 0, 1) := by decide +kernel
theorem dX4_hasDataAnywhere_1 : decode cX4_hasDataAnywhere 1 = .ok (.istore_n 1, 1) := by decide +kernel
theorem dX4_hasDataAnywhere_2 : decode cX4_hasDataAnywhere 2 = .ok (.iload_n 1, 1) := by decide +kernel
theorem dX4_hasDataAnywhere_3 : decode cX4_hasDataAnywhere 3 = .ok (.iconst 4, 1) := by decide +kernel
theorem dX4_hasDataAnywhere_4 : decode cX4_hasDataAnywhere 4 = .ok (.if_icmp .ge 19, 3) := by decide +kernel
theorem dX4_hasDataAnywhere_7 : decode cX4_hasDataAnywhere 7 = .ok (.aload_n 0, 1) := by decide +kernel
theorem dX4_hasDataAnywhere_8 : decode cX4_hasDataAnywhere 8 = .ok (.iload_n 1, 1) := by decide +kernel
theorem dX4_hasDataAnywhere_9 : decode cX4_hasDataAnywhere 9 = .ok (.invokevirtual 231, 3) := by decide +kernel
theorem dX4_hasDataAnywhere_12 : decode cX4_hasDataAnywhere 12 = .ok (.ifCond .eq 5, 3) := by decide +kernel
theorem dX4_hasDataAnywhere_15 : decode cX4_hasDataAnywhere 15 = .ok (.iconst 1, 1) := by decide +kernel
theorem dX4_hasDataAnywhere_16 : decode cX4_hasDataAnywhere 16 = .ok (.ireturn, 1) := by decide +kernel
theorem dX4_hasDataAnywhere_17 : decode cX4_hasDataAnywhere 17 = .ok (.iinc 1 1, 3) := by decide +kernel
theorem dX4_hasDataAnywhere_20 : decode cX4_hasDataAnywhere 20 = .ok (.goto (-18), 3) := by decide +kernel
theorem dX4_hasDataAnywhere_23 : decode cX4_hasDataAnywhere 23 = .ok (.iconst 0, 1) := by decide +kernel
theorem dX4_hasDataAnywhere_24 : decode cX4_hasDataAnywhere 24 = .ok (.ireturn, 1) := by decide +kernel
def b_X4_hasDataAnywhere_2 (M : Mem) (rec : Int32 → Bool ⊕ (Int32)) (v1 : Int32) : Bool ⊕ (Int32) :=
  if 4 ≤ v1 then .inr v1
  else if (f_X4_hasData v1 M) then .inl true
  else rec (v1 + 1)
def l_X4_hasDataAnywhere_2 (M : Mem) : Nat → Int32 → Bool ⊕ (Int32)
  | 0, v1 => .inr v1
  | n + 1, v1 => b_X4_hasDataAnywhere_2 M (l_X4_hasDataAnywhere_2 M n) v1
set_option maxRecDepth 100000 in
set_option maxHeartbeats 4000000 in
theorem kl_X4_hasDataAnywhere_2 (q : ZQ) (M : Mem) {K : Bool ⊕ (Int32) → ZR} (hret : ∀ r : Bool, K (.inl r) = (wB M) r) (hx : ∀ e : Int32, Zg (zgX q) mX4_hasDataAnywhere 0 0 0 0 (K (.inr e)) 23 [some (.inr 0), some (.inl e)] [] M) :
    ∀ (n : Nat) (v1 : Int32), ((4 : Int32).toInt - (v1 : Int32).toInt).toNat < n → Zg (zgX q) mX4_hasDataAnywhere 0 0 0 0 (zlet (l_X4_hasDataAnywhere_2 M n v1) K) 2 [some (.inr 0), some (.inl v1)] [] M := by
  intro n
  induction n with
  | zero => intro v1 hm; exact absurd hm (Nat.not_lt_zero _)
  | succ n ih =>
    intro v1 hm
    show Zg _ _ _ _ _ _ (zlet (b_X4_hasDataAnywhere_2 M (l_X4_hasDataAnywhere_2 M n) v1) K) _ _ _ _
    unfold b_X4_hasDataAnywhere_2
    refine zg_iload_n (x := v1) dX4_hasDataAnywhere_2 rfl ?_
    refine zg_iconst (v := 4) dX4_hasDataAnywhere_3 rfl ?_
    refine zg_icmpz (tgt := 23) dX4_hasDataAnywhere_4 rfl rfl (fun c4 => ?_) (fun c4 => ?_)
    · refine zg_st (pc' := 23) (L' := [some (.inr 0), some (.inl v1)]) (S' := []) (M' := M) rfl rfl rfl rfl ?_
      refine zg_drop (L' := [some (.inr 0), some (.inl v1)]) ⟨rfl, rfl, trivial⟩ ?_
      exact hx v1
    · refine zg_st (pc' := 7) (L' := [some (.inr 0), some (.inl v1)]) (S' := []) (M' := M) rfl rfl rfl rfl ?_
      refine zg_aload_n (x := 0) dX4_hasDataAnywhere_7 rfl ?_
      refine zg_iload_n (x := v1) dX4_hasDataAnywhere_8 rfl ?_
      refine zg_cV1 (As := [.inl v1]) (S := []) (v := bI ((f_X4_hasData v1 M))) dX4_hasDataAnywhere_9 zk_X4_231 (k_X4_hasData q v1 M) rfl rfl ⟨by decide, by decide⟩ ⟨by decide, by decide⟩ rfl (Nat.le_of_ble_eq_true rfl) ?_
      refine zg_st (pc' := 12) (L' := [some (.inr 0), some (.inl v1)]) (S' := [.inl (bI ((f_X4_hasData v1 M)))]) (M' := M) rfl rfl rfl rfl ?_
      refine zg_ifbe (tgt := 17) dX4_hasDataAnywhere_12 rfl (fun c12 => ?_) (fun c12 => ?_)
      · refine zg_st (pc' := 15) (L' := [some (.inr 0), some (.inl v1)]) (S' := []) (M' := M) rfl rfl rfl rfl ?_
        refine zg_iconst (v := 1) dX4_hasDataAnywhere_15 rfl ?_
        exact zg_iret dX4_hasDataAnywhere_16 rfl rfl ⟨by decide, by decide⟩ (hret _)
      · refine zg_st (pc' := 17) (L' := [some (.inr 0), some (.inl v1)]) (S' := []) (M' := M) rfl rfl rfl rfl ?_
        refine zg_iinc (v := (v1 + 1)) dX4_hasDataAnywhere_17 rfl (by decide) rfl ?_
        refine zg_st (pc' := 20) (L' := [some (.inr 0), some (.inl (v1 + 1))]) (S' := []) (M' := M) rfl rfl rfl rfl ?_
        refine zg_goto (tgt := 2) dX4_hasDataAnywhere_20 rfl ?_
        refine zg_st (pc' := 2) (L' := [some (.inr 0), some (.inl (v1 + 1))]) (S' := []) (M' := M) rfl rfl rfl rfl ?_
        refine zg_drop (L' := [some (.inr 0), some (.inl (v1 + 1))]) ⟨rfl, rfl, trivial⟩ ?_
        exact ih (v1 + 1) (z_up c4 hm)
def f_X4_hasDataAnywhere (M : Mem) : Bool :=
  zlet (l_X4_hasDataAnywhere_2 M 5 0) (fun s1 => Sum.elim (fun r => r) (fun e_s1 =>
  false) s1)
set_option maxRecDepth 100000 in
set_option maxHeartbeats 4000000 in
theorem k_X4_hasDataAnywhere (q : ZQ) (M : Mem) : Zc (zgX q) mX4_hasDataAnywhere 0 0 [.inr 0] M (wB M (f_X4_hasDataAnywhere M)) := by
  refine Zc.of (by decide) zi_X4_hasDataAnywhere.1 (Nat.le_of_ble_eq_true rfl) rfl ?_
  show Zg _ _ _ _ _ _ (zlet (f_X4_hasDataAnywhere M) (wB M)) _ _ _ _
  unfold f_X4_hasDataAnywhere
  refine zg_iconst (v := 0) dX4_hasDataAnywhere_0 rfl ?_
  refine zg_istore_n dX4_hasDataAnywhere_1 (by decide) ?_
  refine zg_st (pc' := 2) (L' := [some (.inr 0), some (.inl 0)]) (S' := []) (M' := M) rfl rfl rfl rfl ?_
  refine zg_asc ?_
  refine zg_drop (L' := [some (.inr 0), some (.inl 0)]) ⟨rfl, rfl, trivial⟩ ?_
  refine kl_X4_hasDataAnywhere_2 q M ?_ (fun e_s1 => ?_) 5 0 (by decide)
  · exact fun r => rfl
  try dsimp only [Sum.elim_inr]
  refine zg_st (pc' := 23) (L' := [some (.inr 0), some (.inl e_s1)]) (S' := []) (M' := M) rfl rfl rfl rfl ?_
  refine zg_iconst (v := 0) dX4_hasDataAnywhere_23 rfl ?_
  exact zg_iret dX4_hasDataAnywhere_24 rfl rfl ⟨by decide, by decide⟩ rfl
theorem dX4_choosePlaces_0 : decode cX4_choosePlaces 0 = .ok (.aload_n 0, 1) := by decide +kernel
theorem dX4_choosePlaces_1 : decode cX4_choosePlaces 1 = .ok (.getfield 33, 3) := by decide +kernel
theorem dX4_choosePlaces_4 : decode cX4_choosePlaces 4 = .ok (.aload_n 0, 1) := by decide +kernel
theorem dX4_choosePlaces_5 : decode cX4_choosePlaces 5 = .ok (.getfield 12, 3) := by decide +kernel
theorem dX4_choosePlaces_8 : decode cX4_choosePlaces 8 = .ok (.invokevirtual 240, 3) := by decide +kernel
theorem dX4_choosePlaces_11 : decode cX4_choosePlaces 11 = .ok (.iconst 0, 1) := by decide +kernel
theorem dX4_choosePlaces_12 : decode cX4_choosePlaces 12 = .ok (.istore_n 1, 1) := by decide +kernel
theorem dX4_choosePlaces_13 : decode cX4_choosePlaces 13 = .ok (.iload_n 1, 1) := by decide +kernel
theorem dX4_choosePlaces_14 : decode cX4_choosePlaces 14 = .ok (.iconst 4, 1) := by decide +kernel
theorem dX4_choosePlaces_15 : decode cX4_choosePlaces 15 = .ok (.if_icmp .ge 30, 3) := by decide +kernel
theorem dX4_choosePlaces_18 : decode cX4_choosePlaces 18 = .ok (.aload_n 0, 1) := by decide +kernel
theorem dX4_choosePlaces_19 : decode cX4_choosePlaces 19 = .ok (.getfield 26, 3) := by decide +kernel
theorem dX4_choosePlaces_22 : decode cX4_choosePlaces 22 = .ok (.iload_n 1, 1) := by decide +kernel
theorem dX4_choosePlaces_23 : decode cX4_choosePlaces 23 = .ok (.invokevirtual 244, 3) := by decide +kernel
theorem dX4_choosePlaces_26 : decode cX4_choosePlaces 26 = .ok (.ifCond .eq 13, 3) := by decide +kernel
theorem dX4_choosePlaces_29 : decode cX4_choosePlaces 29 = .ok (.aload_n 0, 1) := by decide +kernel
theorem dX4_choosePlaces_30 : decode cX4_choosePlaces 30 = .ok (.iload_n 1, 1) := by decide +kernel
theorem dX4_choosePlaces_31 : decode cX4_choosePlaces 31 = .ok (.invokevirtual 247, 3) := by decide +kernel
theorem dX4_choosePlaces_34 : decode cX4_choosePlaces 34 = .ok (.ifCond .ne 5, 3) := by decide +kernel
theorem dX4_choosePlaces_37 : decode cX4_choosePlaces 37 = .ok (.iconst 0, 1) := by decide +kernel
theorem dX4_choosePlaces_38 : decode cX4_choosePlaces 38 = .ok (.ireturn, 1) := by decide +kernel
theorem dX4_choosePlaces_39 : decode cX4_choosePlaces 39 = .ok (.iinc 1 1, 3) := by decide +kernel
theorem dX4_choosePlaces_42 : decode cX4_choosePlaces 42 = .ok (.goto (-29), 3) := by decide +kernel
theorem dX4_choosePlaces_45 : decode cX4_choosePlaces 45 = .ok (.aload_n 0, 1) := by decide +kernel
theorem dX4_choosePlaces_46 : decode cX4_choosePlaces 46 = .ok (.invokevirtual 250, 3) := by decide +kernel
theorem dX4_choosePlaces_49 : decode cX4_choosePlaces 49 = .ok (.ifCond .eq 20, 3) := by decide +kernel
theorem dX4_choosePlaces_52 : decode cX4_choosePlaces 52 = .ok (.aload_n 0, 1) := by decide +kernel
theorem dX4_choosePlaces_53 : decode cX4_choosePlaces 53 = .ok (.getfield 33, 3) := by decide +kernel
theorem dX4_choosePlaces_56 : decode cX4_choosePlaces 56 = .ok (.aload_n 0, 1) := by decide +kernel
theorem dX4_choosePlaces_57 : decode cX4_choosePlaces 57 = .ok (.getfield 12, 3) := by decide +kernel
theorem dX4_choosePlaces_60 : decode cX4_choosePlaces 60 = .ok (.bipush 52, 2) := by decide +kernel
theorem dX4_choosePlaces_62 : decode cX4_choosePlaces 62 = .ok (.iconst 2, 1) := by decide +kernel
theorem dX4_choosePlaces_63 : decode cX4_choosePlaces 63 = .ok (.invokevirtual 253, 3) := by decide +kernel
theorem dX4_choosePlaces_66 : decode cX4_choosePlaces 66 = .ok (.ifCond .eq 7, 3) := by decide +kernel
theorem dX4_choosePlaces_69 : decode cX4_choosePlaces 69 = .ok (.iconst 1, 1) := by decide +kernel
theorem dX4_choosePlaces_70 : decode cX4_choosePlaces 70 = .ok (.goto 4, 3) := by decide +kernel
theorem dX4_choosePlaces_73 : decode cX4_choosePlaces 73 = .ok (.iconst 0, 1) := by decide +kernel
theorem dX4_choosePlaces_74 : decode cX4_choosePlaces 74 = .ok (.ireturn, 1) := by decide +kernel
def b_X4_choosePlaces_13 (rec : Int32 → Mem → (Bool × Mem) ⊕ (Int32 × Mem)) (v1 : Int32) (N : Mem) : (Bool × Mem) ⊕ (Int32 × Mem) :=
  if 4 ≤ v1 then .inr (v1, N)
  else if (f_X2_changes v1 N) then zlet (f_X4_chooseForFile v1 N) (fun q2 =>
    if q2.1 then rec (v1 + 1) q2.2
      else .inl (false, q2.2))
  else rec (v1 + 1) N
def l_X4_choosePlaces_13 : Nat → Int32 → Mem → (Bool × Mem) ⊕ (Int32 × Mem)
  | 0, v1, N => .inr (v1, N)
  | n + 1, v1, N => b_X4_choosePlaces_13 (l_X4_choosePlaces_13 n) v1 N
set_option maxRecDepth 100000 in
set_option maxHeartbeats 4000000 in
theorem kl_X4_choosePlaces_13 (q : ZQ) {K : (Bool × Mem) ⊕ (Int32 × Mem) → ZR} (hret : ∀ r : (Bool × Mem), K (.inl r) = wBM r) (hx : ∀ e : Int32 × Mem, Zg (zgX q) mX4_choosePlaces 0 0 0 0 (K (.inr e)) 45 [some (.inr 0), some (.inl e.1)] [] e.2) :
    ∀ (n : Nat) (v1 : Int32) (N : Mem), ((4 : Int32).toInt - (v1 : Int32).toInt).toNat < n → Zg (zgX q) mX4_choosePlaces 0 0 0 0 (zlet (l_X4_choosePlaces_13 n v1 N) K) 13 [some (.inr 0), some (.inl v1)] [] N := by
  intro n
  induction n with
  | zero => intro v1 N hm; exact absurd hm (Nat.not_lt_zero _)
  | succ n ih =>
    intro v1 N hm
    show Zg _ _ _ _ _ _ (zlet (b_X4_choosePlaces_13 (l_X4_choosePlaces_13 n) v1 N) K) _ _ _ _
    unfold b_X4_choosePlaces_13
    refine zg_iload_n (x := v1) dX4_choosePlaces_13 rfl ?_
    refine zg_iconst (v := 4) dX4_choosePlaces_14 rfl ?_
    refine zg_icmpz (tgt := 45) dX4_choosePlaces_15 rfl rfl (fun c15 => ?_) (fun c15 => ?_)
    · refine zg_st (pc' := 45) (L' := [some (.inr 0), some (.inl v1)]) (S' := []) (M' := N) rfl rfl rfl rfl ?_
      refine zg_drop (L' := [some (.inr 0), some (.inl v1)]) ⟨rfl, rfl, trivial⟩ ?_
      exact hx (v1, N)
    · refine zg_st (pc' := 18) (L' := [some (.inr 0), some (.inl v1)]) (S' := []) (M' := N) rfl rfl rfl rfl ?_
      refine zg_aload_n (x := 0) dX4_choosePlaces_18 rfl ?_
      refine zg_getf (v := .inr 3) dX4_choosePlaces_19 zf_X4_26 rfl rfl rfl ?_
      refine zg_iload_n (x := v1) dX4_choosePlaces_22 rfl ?_
      refine zg_cV1 (As := [.inl v1]) (S := []) (v := bI ((f_X2_changes v1 N))) dX4_choosePlaces_23 zk_X4_244 (k_X2_changes q v1 N) rfl rfl ⟨by decide, by decide⟩ ⟨by decide, by decide⟩ rfl (Nat.le_of_ble_eq_true rfl) ?_
      refine zg_st (pc' := 26) (L' := [some (.inr 0), some (.inl v1)]) (S' := [.inl (bI ((f_X2_changes v1 N)))]) (M' := N) rfl rfl rfl rfl ?_
      refine zg_ifbe (tgt := 39) dX4_choosePlaces_26 rfl (fun c26 => ?_) (fun c26 => ?_)
      · refine zg_st (pc' := 29) (L' := [some (.inr 0), some (.inl v1)]) (S' := []) (M' := N) rfl rfl rfl rfl ?_
        refine zg_aload_n (x := 0) dX4_choosePlaces_29 rfl ?_
        refine zg_iload_n (x := v1) dX4_choosePlaces_30 rfl ?_
        refine zg_cVBM (As := [.inl v1]) (S := []) dX4_choosePlaces_31 zk_X4_247 (k_X4_chooseForFile q v1 N) rfl rfl ⟨by decide, by decide⟩ ⟨by decide, by decide⟩ rfl (Nat.le_of_ble_eq_true rfl) (fun q2 e_q2 => ?_)
        try dsimp only
        refine zg_st (pc' := 34) (L' := [some (.inr 0), some (.inl v1)]) (S' := [.inl (bI q2.1)]) (M' := q2.2) rfl rfl rfl rfl ?_
        refine zg_ifbn (tgt := 39) dX4_choosePlaces_34 rfl (fun c34 => ?_) (fun c34 => ?_)
        · refine zg_st (pc' := 39) (L' := [some (.inr 0), some (.inl v1)]) (S' := []) (M' := q2.2) rfl rfl rfl rfl ?_
          refine zg_iinc (v := (v1 + 1)) dX4_choosePlaces_39 rfl (by decide) rfl ?_
          refine zg_st (pc' := 42) (L' := [some (.inr 0), some (.inl (v1 + 1))]) (S' := []) (M' := q2.2) rfl rfl rfl rfl ?_
          refine zg_goto (tgt := 13) dX4_choosePlaces_42 rfl ?_
          refine zg_st (pc' := 13) (L' := [some (.inr 0), some (.inl (v1 + 1))]) (S' := []) (M' := q2.2) rfl rfl rfl rfl ?_
          refine zg_drop (L' := [some (.inr 0), some (.inl (v1 + 1))]) ⟨rfl, rfl, trivial⟩ ?_
          exact ih (v1 + 1) q2.2 (z_up c15 hm)
        · refine zg_st (pc' := 37) (L' := [some (.inr 0), some (.inl v1)]) (S' := []) (M' := q2.2) rfl rfl rfl rfl ?_
          refine zg_iconst (v := 0) dX4_choosePlaces_37 rfl ?_
          exact zg_iret dX4_choosePlaces_38 rfl rfl ⟨by decide, by decide⟩ (hret _)
      · refine zg_st (pc' := 39) (L' := [some (.inr 0), some (.inl v1)]) (S' := []) (M' := N) rfl rfl rfl rfl ?_
        refine zg_iinc (v := (v1 + 1)) dX4_choosePlaces_39 rfl (by decide) rfl ?_
        refine zg_st (pc' := 42) (L' := [some (.inr 0), some (.inl (v1 + 1))]) (S' := []) (M' := N) rfl rfl rfl rfl ?_
        refine zg_goto (tgt := 13) dX4_choosePlaces_42 rfl ?_
        refine zg_st (pc' := 13) (L' := [some (.inr 0), some (.inl (v1 + 1))]) (S' := []) (M' := N) rfl rfl rfl rfl ?_
        refine zg_drop (L' := [some (.inr 0), some (.inl (v1 + 1))]) ⟨rfl, rfl, trivial⟩ ?_
        exact ih (v1 + 1) N (z_up c15 hm)
def f_X4_choosePlaces (M : Mem) : (Bool × Mem) :=
  zlet (f_X1_begin M) (fun N1 =>
  zlet (l_X4_choosePlaces_13 5 0 N1) (fun s3 => Sum.elim (fun r => r) (fun e_s3 =>
    if (f_X4_hasDataAnywhere e_s3.2) then zlet (f_X1_choose 52 2 e_s3.2) (fun q4 =>
        if q4.1 then (true, q4.2)
          else (false, q4.2))
      else (true, e_s3.2)) s3))
set_option maxRecDepth 100000 in
set_option maxHeartbeats 4000000 in
theorem k_X4_choosePlaces (q : ZQ) (M : Mem) : Zc (zgX q) mX4_choosePlaces 0 0 [.inr 0] M (wBM (f_X4_choosePlaces M)) := by
  refine Zc.of (by decide) zi_X4_choosePlaces.1 (Nat.le_of_ble_eq_true rfl) rfl ?_
  show Zg _ _ _ _ _ _ (zlet (f_X4_choosePlaces M) wBM) _ _ _ _
  unfold f_X4_choosePlaces
  refine zg_aload_n (x := 0) dX4_choosePlaces_0 rfl ?_
  refine zg_getf (v := .inr 4) dX4_choosePlaces_1 zf_X4_33 rfl rfl rfl ?_
  refine zg_aload_n (x := 0) dX4_choosePlaces_4 rfl ?_
  refine zg_getf (v := .inr 1) dX4_choosePlaces_5 zf_X4_12 rfl rfl rfl ?_
  refine zg_cVV (As := [.inr 1]) (S := []) dX4_choosePlaces_8 zk_X4_240 (k_X1_begin q M) rfl rfl ⟨by decide, by decide⟩ ⟨by decide, by decide⟩ rfl (Nat.le_of_ble_eq_true rfl) (fun N1 e_N1 => ?_)
  try dsimp only
  refine zg_st (pc' := 11) (L' := [some (.inr 0), none]) (S' := []) (M' := N1) rfl rfl rfl rfl ?_
  refine zg_iconst (v := 0) dX4_choosePlaces_11 rfl ?_
  refine zg_istore_n dX4_choosePlaces_12 (by decide) ?_
  refine zg_st (pc' := 13) (L' := [some (.inr 0), some (.inl 0)]) (S' := []) (M' := N1) rfl rfl rfl rfl ?_
  refine zg_asc ?_
  refine zg_drop (L' := [some (.inr 0), some (.inl 0)]) ⟨rfl, rfl, trivial⟩ ?_
  refine kl_X4_choosePlaces_13 q  ?_ (fun e_s3 => ?_) 5 0 N1 (by decide)
  · exact fun r => rfl
  try dsimp only [Sum.elim_inr]
  refine zg_st (pc' := 45) (L' := [some (.inr 0), some (.inl e_s3.1)]) (S' := []) (M' := e_s3.2) rfl rfl rfl rfl ?_
  refine zg_aload_n (x := 0) dX4_choosePlaces_45 rfl ?_
  refine zg_cV1 (As := []) (S := []) (v := bI ((f_X4_hasDataAnywhere e_s3.2))) dX4_choosePlaces_46 zk_X4_250 (k_X4_hasDataAnywhere q e_s3.2) rfl rfl ⟨by decide, by decide⟩ ⟨by decide, by decide⟩ rfl (Nat.le_of_ble_eq_true rfl) ?_
  refine zg_st (pc' := 49) (L' := [some (.inr 0), some (.inl e_s3.1)]) (S' := [.inl (bI ((f_X4_hasDataAnywhere e_s3.2)))]) (M' := e_s3.2) rfl rfl rfl rfl ?_
  refine zg_ifbe (tgt := 69) dX4_choosePlaces_49 rfl (fun c49 => ?_) (fun c49 => ?_)
  · refine zg_st (pc' := 52) (L' := [some (.inr 0), some (.inl e_s3.1)]) (S' := []) (M' := e_s3.2) rfl rfl rfl rfl ?_
    refine zg_aload_n (x := 0) dX4_choosePlaces_52 rfl ?_
    refine zg_getf (v := .inr 4) dX4_choosePlaces_53 zf_X4_33 rfl rfl rfl ?_
    refine zg_aload_n (x := 0) dX4_choosePlaces_56 rfl ?_
    refine zg_getf (v := .inr 1) dX4_choosePlaces_57 zf_X4_12 rfl rfl rfl ?_
    refine zg_bipush (v := 52) dX4_choosePlaces_60 rfl ?_
    refine zg_iconst (v := 2) dX4_choosePlaces_62 rfl ?_
    refine zg_cVBM (As := [.inr 1, .inl 52, .inl 2]) (S := []) dX4_choosePlaces_63 zk_X4_253 (k_X1_choose q 52 2 e_s3.2) rfl rfl ⟨by decide, by decide⟩ ⟨by decide, by decide⟩ rfl (Nat.le_of_ble_eq_true rfl) (fun q4 e_q4 => ?_)
    try dsimp only
    refine zg_st (pc' := 66) (L' := [some (.inr 0), some (.inl e_s3.1)]) (S' := [.inl (bI q4.1)]) (M' := q4.2) rfl rfl rfl rfl ?_
    refine zg_ifbe (tgt := 73) dX4_choosePlaces_66 rfl (fun c66 => ?_) (fun c66 => ?_)
    · refine zg_st (pc' := 69) (L' := [some (.inr 0), some (.inl e_s3.1)]) (S' := []) (M' := q4.2) rfl rfl rfl rfl ?_
      refine zg_iconst (v := 1) dX4_choosePlaces_69 rfl ?_
      refine zg_goto (tgt := 74) dX4_choosePlaces_70 rfl ?_
      refine zg_st (pc' := 74) (L' := [some (.inr 0), some (.inl e_s3.1)]) (S' := [.inl 1]) (M' := q4.2) rfl rfl rfl rfl ?_
      exact zg_iret dX4_choosePlaces_74 rfl rfl ⟨by decide, by decide⟩ rfl
    · refine zg_st (pc' := 73) (L' := [some (.inr 0), some (.inl e_s3.1)]) (S' := []) (M' := q4.2) rfl rfl rfl rfl ?_
      refine zg_iconst (v := 0) dX4_choosePlaces_73 rfl ?_
      exact zg_iret dX4_choosePlaces_74 rfl rfl ⟨by decide, by decide⟩ rfl
  · refine zg_st (pc' := 69) (L' := [some (.inr 0), some (.inl e_s3.1)]) (S' := []) (M' := e_s3.2) rfl rfl rfl rfl ?_
    refine zg_iconst (v := 1) dX4_choosePlaces_69 rfl ?_
    refine zg_goto (tgt := 74) dX4_choosePlaces_70 rfl ?_
    refine zg_st (pc' := 74) (L' := [some (.inr 0), some (.inl e_s3.1)]) (S' := [.inl 1]) (M' := e_s3.2) rfl rfl rfl rfl ?_
    exact zg_iret dX4_choosePlaces_74 rfl rfl ⟨by decide, by decide⟩ rfl
theorem dX4_repoint_0 : decode cX4_repoint 0 = .ok (.aload_n 0, 1) := by decide +kernel
theorem dX4_repoint_1 : decode cX4_repoint 1 = .ok (.getfield 33, 3) := by decide +kernel
theorem dX4_repoint_4 : decode cX4_repoint 4 = .ok (.iload_n 1, 1) := by decide +kernel
theorem dX4_repoint_5 : decode cX4_repoint 5 = .ok (.invokevirtual 270, 3) := by decide +kernel
theorem dX4_repoint_8 : decode cX4_repoint 8 = .ok (.istore_n 3, 1) := by decide +kernel
theorem dX4_repoint_9 : decode cX4_repoint 9 = .ok (.aload_n 0, 1) := by decide +kernel
theorem dX4_repoint_10 : decode cX4_repoint 10 = .ok (.getfield 33, 3) := by decide +kernel
theorem dX4_repoint_13 : decode cX4_repoint 13 = .ok (.iload_n 1, 1) := by decide +kernel
theorem dX4_repoint_14 : decode cX4_repoint 14 = .ok (.invokevirtual 273, 3) := by decide +kernel
theorem dX4_repoint_17 : decode cX4_repoint 17 = .ok (.istore 4, 2) := by decide +kernel
theorem dX4_repoint_19 : decode cX4_repoint 19 = .ok (.iload_n 3, 1) := by decide +kernel
theorem dX4_repoint_20 : decode cX4_repoint 20 = .ok (.iconst (-1), 1) := by decide +kernel
theorem dX4_repoint_21 : decode cX4_repoint 21 = .ok (.if_icmp .ne 13, 3) := by decide +kernel
theorem dX4_repoint_24 : decode cX4_repoint 24 = .ok (.aload_n 0, 1) := by decide +kernel
theorem dX4_repoint_25 : decode cX4_repoint 25 = .ok (.getfield 19, 3) := by decide +kernel
theorem dX4_repoint_28 : decode cX4_repoint 28 = .ok (.iload_n 1, 1) := by decide +kernel
theorem dX4_repoint_29 : decode cX4_repoint 29 = .ok (.invokevirtual 276, 3) := by decide +kernel
theorem dX4_repoint_32 : decode cX4_repoint 32 = .ok (.iconst 0, 1) := by decide +kernel
theorem dX4_repoint_33 : decode cX4_repoint 33 = .ok (.ireturn, 1) := by decide +kernel
theorem dX4_repoint_34 : decode cX4_repoint 34 = .ok (.aload_n 0, 1) := by decide +kernel
theorem dX4_repoint_35 : decode cX4_repoint 35 = .ok (.getfield 19, 3) := by decide +kernel
theorem dX4_repoint_38 : decode cX4_repoint 38 = .ok (.iload_n 1, 1) := by decide +kernel
theorem dX4_repoint_39 : decode cX4_repoint 39 = .ok (.iload_n 3, 1) := by decide +kernel
theorem dX4_repoint_40 : decode cX4_repoint 40 = .ok (.iload 4, 2) := by decide +kernel
theorem dX4_repoint_42 : decode cX4_repoint 42 = .ok (.invokevirtual 280, 3) := by decide +kernel
theorem dX4_repoint_45 : decode cX4_repoint 45 = .ok (.aload_n 0, 1) := by decide +kernel
theorem dX4_repoint_46 : decode cX4_repoint 46 = .ok (.getfield 19, 3) := by decide +kernel
theorem dX4_repoint_49 : decode cX4_repoint 49 = .ok (.iload_n 1, 1) := by decide +kernel
theorem dX4_repoint_50 : decode cX4_repoint 50 = .ok (.iload_n 2, 1) := by decide +kernel
theorem dX4_repoint_51 : decode cX4_repoint 51 = .ok (.aload_n 0, 1) := by decide +kernel
theorem dX4_repoint_52 : decode cX4_repoint 52 = .ok (.getfield 26, 3) := by decide +kernel
theorem dX4_repoint_55 : decode cX4_repoint 55 = .ok (.getfield 137, 3) := by decide +kernel
theorem dX4_repoint_58 : decode cX4_repoint 58 = .ok (.invokevirtual 283, 3) := by decide +kernel
theorem dX4_repoint_61 : decode cX4_repoint 61 = .ok (.aload_n 0, 1) := by decide +kernel
theorem dX4_repoint_62 : decode cX4_repoint 62 = .ok (.getfield 12, 3) := by decide +kernel
theorem dX4_repoint_65 : decode cX4_repoint 65 = .ok (.iload_n 3, 1) := by decide +kernel
theorem dX4_repoint_66 : decode cX4_repoint 66 = .ok (.invokevirtual 286, 3) := by decide +kernel
theorem dX4_repoint_69 : decode cX4_repoint 69 = .ok (.aload_n 0, 1) := by decide +kernel
theorem dX4_repoint_70 : decode cX4_repoint 70 = .ok (.getfield 12, 3) := by decide +kernel
theorem dX4_repoint_73 : decode cX4_repoint 73 = .ok (.iload 4, 2) := by decide +kernel
theorem dX4_repoint_75 : decode cX4_repoint 75 = .ok (.invokevirtual 286, 3) := by decide +kernel
theorem dX4_repoint_78 : decode cX4_repoint 78 = .ok (.iload 4, 2) := by decide +kernel
theorem dX4_repoint_80 : decode cX4_repoint 80 = .ok (.iconst (-1), 1) := by decide +kernel
theorem dX4_repoint_81 : decode cX4_repoint 81 = .ok (.if_icmp .ne 7, 3) := by decide +kernel
theorem dX4_repoint_84 : decode cX4_repoint 84 = .ok (.iconst 1, 1) := by decide +kernel
theorem dX4_repoint_85 : decode cX4_repoint 85 = .ok (.goto 4, 3) := by decide +kernel
theorem dX4_repoint_88 : decode cX4_repoint 88 = .ok (.iconst 2, 1) := by decide +kernel
theorem dX4_repoint_89 : decode cX4_repoint 89 = .ok (.ireturn, 1) := by decide +kernel
def f_X4_repoint (p1 : Int32) (p2 : Int32) (M : Mem) : (Int32 × Mem) :=
  if ¬ (f_X1_firstFor p1 M) = (-1) then zlet (f_X3_point p1 (f_X1_firstFor p1 M) (f_X1_secondFor p1 M) M) (fun N1 =>
    zlet (f_X3_sign p1 p2 (N1 3 1) N1) (fun N2 =>
      zlet (f_X0_fill (f_X1_firstFor p1 M) N2) (fun N3 =>
        zlet (f_X0_fill (f_X1_secondFor p1 M) N3) (fun N4 =>
          if ¬ (f_X1_secondFor p1 M) = (-1) then (2, N4)
            else (1, N4)))))
  else zlet (f_X3_drop p1 M) (fun N5 =>
  (0, N5))
set_option maxRecDepth 100000 in
set_option maxHeartbeats 4000000 in
theorem k_X4_repoint (q : ZQ) (p1 : Int32) (p2 : Int32) (M : Mem) : Zc (zgX q) mX4_repoint 0 0 [.inr 0, .inl p1, .inl p2] M (wIM (f_X4_repoint p1 p2 M)) := by
  refine Zc.of (by decide) zi_X4_repoint.1 (Nat.le_of_ble_eq_true rfl) rfl ?_
  show Zg _ _ _ _ _ _ (zlet (f_X4_repoint p1 p2 M) wIM) _ _ _ _
  unfold f_X4_repoint
  refine zg_aload_n (x := 0) dX4_repoint_0 rfl ?_
  refine zg_getf (v := .inr 4) dX4_repoint_1 zf_X4_33 rfl rfl rfl ?_
  refine zg_iload_n (x := p1) dX4_repoint_4 rfl ?_
  refine zg_cV1 (As := [.inl p1]) (S := []) (v := (f_X1_firstFor p1 M)) dX4_repoint_5 zk_X4_270 (k_X1_firstFor q p1 M) rfl rfl ⟨by decide, by decide⟩ ⟨by decide, by decide⟩ rfl (Nat.le_of_ble_eq_true rfl) ?_
  refine zg_st (pc' := 8) (L' := [some (.inr 0), some (.inl p1), some (.inl p2), none, none]) (S' := [.inl (f_X1_firstFor p1 M)]) (M' := M) rfl rfl rfl rfl ?_
  refine zg_istore_n dX4_repoint_8 (by decide) ?_
  refine zg_st (pc' := 9) (L' := [some (.inr 0), some (.inl p1), some (.inl p2), some (.inl (f_X1_firstFor p1 M)), none]) (S' := []) (M' := M) rfl rfl rfl rfl ?_
  refine zg_aload_n (x := 0) dX4_repoint_9 rfl ?_
  refine zg_getf (v := .inr 4) dX4_repoint_10 zf_X4_33 rfl rfl rfl ?_
  refine zg_iload_n (x := p1) dX4_repoint_13 rfl ?_
  refine zg_cV1 (As := [.inl p1]) (S := []) (v := (f_X1_secondFor p1 M)) dX4_repoint_14 zk_X4_273 (k_X1_secondFor q p1 M) rfl rfl ⟨by decide, by decide⟩ ⟨by decide, by decide⟩ rfl (Nat.le_of_ble_eq_true rfl) ?_
  refine zg_st (pc' := 17) (L' := [some (.inr 0), some (.inl p1), some (.inl p2), some (.inl (f_X1_firstFor p1 M)), none]) (S' := [.inl (f_X1_secondFor p1 M)]) (M' := M) rfl rfl rfl rfl ?_
  refine zg_istore dX4_repoint_17 (by decide) ?_
  refine zg_st (pc' := 19) (L' := [some (.inr 0), some (.inl p1), some (.inl p2), some (.inl (f_X1_firstFor p1 M)), some (.inl (f_X1_secondFor p1 M))]) (S' := []) (M' := M) rfl rfl rfl rfl ?_
  refine zg_iload_n (x := (f_X1_firstFor p1 M)) dX4_repoint_19 rfl ?_
  refine zg_iconst (v := (-1)) dX4_repoint_20 rfl ?_
  refine zg_icmpz (tgt := 34) dX4_repoint_21 rfl rfl (fun c21 => ?_) (fun c21 => ?_)
  · refine zg_st (pc' := 34) (L' := [some (.inr 0), some (.inl p1), some (.inl p2), some (.inl (f_X1_firstFor p1 M)), some (.inl (f_X1_secondFor p1 M))]) (S' := []) (M' := M) rfl rfl rfl rfl ?_
    refine zg_aload_n (x := 0) dX4_repoint_34 rfl ?_
    refine zg_getf (v := .inr 2) dX4_repoint_35 zf_X4_19 rfl rfl rfl ?_
    refine zg_iload_n (x := p1) dX4_repoint_38 rfl ?_
    refine zg_iload_n (x := (f_X1_firstFor p1 M)) dX4_repoint_39 rfl ?_
    refine zg_iload (x := (f_X1_secondFor p1 M)) dX4_repoint_40 rfl ?_
    refine zg_cVV (As := [.inl p1, .inl (f_X1_firstFor p1 M), .inl (f_X1_secondFor p1 M)]) (S := []) dX4_repoint_42 zk_X4_280 (k_X3_point q p1 (f_X1_firstFor p1 M) (f_X1_secondFor p1 M) M) rfl rfl ⟨by decide, by decide⟩ ⟨by decide, by decide⟩ rfl (Nat.le_of_ble_eq_true rfl) (fun N1 e_N1 => ?_)
    try dsimp only
    refine zg_st (pc' := 45) (L' := [some (.inr 0), some (.inl p1), some (.inl p2), some (.inl (f_X1_firstFor p1 M)), some (.inl (f_X1_secondFor p1 M))]) (S' := []) (M' := N1) rfl rfl rfl rfl ?_
    refine zg_aload_n (x := 0) dX4_repoint_45 rfl ?_
    refine zg_getf (v := .inr 2) dX4_repoint_46 zf_X4_19 rfl rfl rfl ?_
    refine zg_iload_n (x := p1) dX4_repoint_49 rfl ?_
    refine zg_iload_n (x := p2) dX4_repoint_50 rfl ?_
    refine zg_aload_n (x := 0) dX4_repoint_51 rfl ?_
    refine zg_getf (v := .inr 3) dX4_repoint_52 zf_X4_26 rfl rfl rfl ?_
    refine zg_getf (v := .inl (N1 3 1)) dX4_repoint_55 zf_X4_137 rfl rfl rfl ?_
    refine zg_cVV (As := [.inl p1, .inl p2, .inl (N1 3 1)]) (S := []) dX4_repoint_58 zk_X4_283 (k_X3_sign q p1 p2 (N1 3 1) N1) rfl rfl ⟨by decide, by decide⟩ ⟨by decide, by decide⟩ rfl (Nat.le_of_ble_eq_true rfl) (fun N2 e_N2 => ?_)
    try dsimp only
    refine zg_st (pc' := 61) (L' := [some (.inr 0), some (.inl p1), some (.inl p2), some (.inl (f_X1_firstFor p1 M)), some (.inl (f_X1_secondFor p1 M))]) (S' := []) (M' := N2) rfl rfl rfl rfl ?_
    refine zg_aload_n (x := 0) dX4_repoint_61 rfl ?_
    refine zg_getf (v := .inr 1) dX4_repoint_62 zf_X4_12 rfl rfl rfl ?_
    refine zg_iload_n (x := (f_X1_firstFor p1 M)) dX4_repoint_65 rfl ?_
    refine zg_cVV (As := [.inl (f_X1_firstFor p1 M)]) (S := []) dX4_repoint_66 zk_X4_286 (k_X0_fill q (f_X1_firstFor p1 M) N2) rfl rfl ⟨by decide, by decide⟩ ⟨by decide, by decide⟩ rfl (Nat.le_of_ble_eq_true rfl) (fun N3 e_N3 => ?_)
    try dsimp only
    refine zg_st (pc' := 69) (L' := [some (.inr 0), some (.inl p1), some (.inl p2), some (.inl (f_X1_firstFor p1 M)), some (.inl (f_X1_secondFor p1 M))]) (S' := []) (M' := N3) rfl rfl rfl rfl ?_
    refine zg_aload_n (x := 0) dX4_repoint_69 rfl ?_
    refine zg_getf (v := .inr 1) dX4_repoint_70 zf_X4_12 rfl rfl rfl ?_
    refine zg_iload (x := (f_X1_secondFor p1 M)) dX4_repoint_73 rfl ?_
    refine zg_cVV (As := [.inl (f_X1_secondFor p1 M)]) (S := []) dX4_repoint_75 zk_X4_286 (k_X0_fill q (f_X1_secondFor p1 M) N3) rfl rfl ⟨by decide, by decide⟩ ⟨by decide, by decide⟩ rfl (Nat.le_of_ble_eq_true rfl) (fun N4 e_N4 => ?_)
    try dsimp only
    refine zg_st (pc' := 78) (L' := [some (.inr 0), some (.inl p1), some (.inl p2), some (.inl (f_X1_firstFor p1 M)), some (.inl (f_X1_secondFor p1 M))]) (S' := []) (M' := N4) rfl rfl rfl rfl ?_
    refine zg_iload (x := (f_X1_secondFor p1 M)) dX4_repoint_78 rfl ?_
    refine zg_iconst (v := (-1)) dX4_repoint_80 rfl ?_
    refine zg_icmpz (tgt := 88) dX4_repoint_81 rfl rfl (fun c81 => ?_) (fun c81 => ?_)
    · refine zg_st (pc' := 88) (L' := [some (.inr 0), some (.inl p1), some (.inl p2), some (.inl (f_X1_firstFor p1 M)), some (.inl (f_X1_secondFor p1 M))]) (S' := []) (M' := N4) rfl rfl rfl rfl ?_
      refine zg_iconst (v := 2) dX4_repoint_88 rfl ?_
      exact zg_iret dX4_repoint_89 rfl rfl ⟨by decide, by decide⟩ rfl
    · refine zg_st (pc' := 84) (L' := [some (.inr 0), some (.inl p1), some (.inl p2), some (.inl (f_X1_firstFor p1 M)), some (.inl (f_X1_secondFor p1 M))]) (S' := []) (M' := N4) rfl rfl rfl rfl ?_
      refine zg_iconst (v := 1) dX4_repoint_84 rfl ?_
      refine zg_goto (tgt := 89) dX4_repoint_85 rfl ?_
      refine zg_st (pc' := 89) (L' := [some (.inr 0), some (.inl p1), some (.inl p2), some (.inl (f_X1_firstFor p1 M)), some (.inl (f_X1_secondFor p1 M))]) (S' := [.inl 1]) (M' := N4) rfl rfl rfl rfl ?_
      exact zg_iret dX4_repoint_89 rfl rfl ⟨by decide, by decide⟩ rfl
  · refine zg_st (pc' := 24) (L' := [some (.inr 0), some (.inl p1), some (.inl p2), some (.inl (f_X1_firstFor p1 M)), some (.inl (f_X1_secondFor p1 M))]) (S' := []) (M' := M) rfl rfl rfl rfl ?_
    refine zg_aload_n (x := 0) dX4_repoint_24 rfl ?_
    refine zg_getf (v := .inr 2) dX4_repoint_25 zf_X4_19 rfl rfl rfl ?_
    refine zg_iload_n (x := p1) dX4_repoint_28 rfl ?_
    refine zg_cVV (As := [.inl p1]) (S := []) dX4_repoint_29 zk_X4_276 (k_X3_drop q p1 M) rfl rfl ⟨by decide, by decide⟩ ⟨by decide, by decide⟩ rfl (Nat.le_of_ble_eq_true rfl) (fun N5 e_N5 => ?_)
    try dsimp only
    refine zg_st (pc' := 32) (L' := [some (.inr 0), some (.inl p1), some (.inl p2), some (.inl (f_X1_firstFor p1 M)), some (.inl (f_X1_secondFor p1 M))]) (S' := []) (M' := N5) rfl rfl rfl rfl ?_
    refine zg_iconst (v := 0) dX4_repoint_32 rfl ?_
    exact zg_iret dX4_repoint_33 rfl rfl ⟨by decide, by decide⟩ rfl
theorem dX4_writeFile_0 : decode cX4_writeFile 0 = .ok (.iconst 0, 1) := by decide +kernel
theorem dX4_writeFile_1 : decode cX4_writeFile 1 = .ok (.istore_n 2, 1) := by decide +kernel
theorem dX4_writeFile_2 : decode cX4_writeFile 2 = .ok (.iconst 0, 1) := by decide +kernel
theorem dX4_writeFile_3 : decode cX4_writeFile 3 = .ok (.istore_n 3, 1) := by decide +kernel
theorem dX4_writeFile_4 : decode cX4_writeFile 4 = .ok (.iload_n 3, 1) := by decide +kernel
theorem dX4_writeFile_5 : decode cX4_writeFile 5 = .ok (.bipush 12, 2) := by decide +kernel
theorem dX4_writeFile_7 : decode cX4_writeFile 7 = .ok (.if_icmp .ge 71, 3) := by decide +kernel
theorem dX4_writeFile_10 : decode cX4_writeFile 10 = .ok (.iload_n 1, 1) := by decide +kernel
theorem dX4_writeFile_11 : decode cX4_writeFile 11 = .ok (.iload_n 3, 1) := by decide +kernel
theorem dX4_writeFile_12 : decode cX4_writeFile 12 = .ok (.invokestatic 66, 3) := by decide +kernel
theorem dX4_writeFile_15 : decode cX4_writeFile 15 = .ok (.istore 4, 2) := by decide +kernel
theorem dX4_writeFile_17 : decode cX4_writeFile 17 = .ok (.aload_n 0, 1) := by decide +kernel
theorem dX4_writeFile_18 : decode cX4_writeFile 18 = .ok (.getfield 26, 3) := by decide +kernel
theorem dX4_writeFile_21 : decode cX4_writeFile 21 = .ok (.iload 4, 2) := by decide +kernel
theorem dX4_writeFile_23 : decode cX4_writeFile 23 = .ok (.invokevirtual 86, 3) := by decide +kernel
theorem dX4_writeFile_26 : decode cX4_writeFile 26 = .ok (.ifCond .eq 46, 3) := by decide +kernel
theorem dX4_writeFile_29 : decode cX4_writeFile 29 = .ok (.aload_n 0, 1) := by decide +kernel
theorem dX4_writeFile_30 : decode cX4_writeFile 30 = .ok (.getfield 26, 3) := by decide +kernel
theorem dX4_writeFile_33 : decode cX4_writeFile 33 = .ok (.iload 4, 2) := by decide +kernel
theorem dX4_writeFile_35 : decode cX4_writeFile 35 = .ok (.invokevirtual 89, 3) := by decide +kernel
theorem dX4_writeFile_38 : decode cX4_writeFile 38 = .ok (.istore 5, 2) := by decide +kernel
theorem dX4_writeFile_40 : decode cX4_writeFile 40 = .ok (.aload_n 0, 1) := by decide +kernel
theorem dX4_writeFile_41 : decode cX4_writeFile 41 = .ok (.getfield 19, 3) := by decide +kernel
theorem dX4_writeFile_44 : decode cX4_writeFile 44 = .ok (.iload 4, 2) := by decide +kernel
theorem dX4_writeFile_46 : decode cX4_writeFile 46 = .ok (.iload 5, 2) := by decide +kernel
theorem dX4_writeFile_48 : decode cX4_writeFile 48 = .ok (.invokevirtual 266, 3) := by decide +kernel
theorem dX4_writeFile_51 : decode cX4_writeFile 51 = .ok (.iload_n 2, 1) := by decide +kernel
theorem dX4_writeFile_52 : decode cX4_writeFile 52 = .ok (.aload_n 0, 1) := by decide +kernel
theorem dX4_writeFile_53 : decode cX4_writeFile 53 = .ok (.iload 4, 2) := by decide +kernel
theorem dX4_writeFile_55 : decode cX4_writeFile 55 = .ok (.bipush 31, 2) := by decide +kernel
theorem dX4_writeFile_57 : decode cX4_writeFile 57 = .ok (.iload 5, 2) := by decide +kernel
theorem dX4_writeFile_59 : decode cX4_writeFile 59 = .ok (.imul, 1) := by decide +kernel
theorem dX4_writeFile_60 : decode cX4_writeFile 60 = .ok (.bipush 17, 2) := by decide +kernel
theorem dX4_writeFile_62 : decode cX4_writeFile 62 = .ok (.iadd, 1) := by decide +kernel
theorem dX4_writeFile_63 : decode cX4_writeFile 63 = .ok (.ldc_w 269, 3) := by decide +kernel
theorem dX4_writeFile_66 : decode cX4_writeFile 66 = .ok (.irem, 1) := by decide +kernel
theorem dX4_writeFile_67 : decode cX4_writeFile 67 = .ok (.invokevirtual 263, 3) := by decide +kernel
theorem dX4_writeFile_70 : decode cX4_writeFile 70 = .ok (.iadd, 1) := by decide +kernel
theorem dX4_writeFile_71 : decode cX4_writeFile 71 = .ok (.istore_n 2, 1) := by decide +kernel
theorem dX4_writeFile_72 : decode cX4_writeFile 72 = .ok (.iinc 3 1, 3) := by decide +kernel
theorem dX4_writeFile_75 : decode cX4_writeFile 75 = .ok (.goto (-71), 3) := by decide +kernel
theorem dX4_writeFile_78 : decode cX4_writeFile 78 = .ok (.iload_n 1, 1) := by decide +kernel
theorem dX4_writeFile_79 : decode cX4_writeFile 79 = .ok (.invokestatic 93, 3) := by decide +kernel
theorem dX4_writeFile_82 : decode cX4_writeFile 82 = .ok (.istore_n 3, 1) := by decide +kernel
theorem dX4_writeFile_83 : decode cX4_writeFile 83 = .ok (.iload_n 2, 1) := by decide +kernel
theorem dX4_writeFile_84 : decode cX4_writeFile 84 = .ok (.aload_n 0, 1) := by decide +kernel
theorem dX4_writeFile_85 : decode cX4_writeFile 85 = .ok (.iload_n 3, 1) := by decide +kernel
theorem dX4_writeFile_86 : decode cX4_writeFile 86 = .ok (.aload_n 0, 1) := by decide +kernel
theorem dX4_writeFile_87 : decode cX4_writeFile 87 = .ok (.getfield 19, 3) := by decide +kernel
theorem dX4_writeFile_90 : decode cX4_writeFile 90 = .ok (.iload_n 1, 1) := by decide +kernel
theorem dX4_writeFile_91 : decode cX4_writeFile 91 = .ok (.iconst 0, 1) := by decide +kernel
theorem dX4_writeFile_92 : decode cX4_writeFile 92 = .ok (.invokestatic 66, 3) := by decide +kernel
theorem dX4_writeFile_95 : decode cX4_writeFile 95 = .ok (.bipush 12, 2) := by decide +kernel
theorem dX4_writeFile_97 : decode cX4_writeFile 97 = .ok (.invokevirtual 260, 3) := by decide +kernel
theorem dX4_writeFile_100 : decode cX4_writeFile 100 = .ok (.invokevirtual 263, 3) := by decide +kernel
theorem dX4_writeFile_103 : decode cX4_writeFile 103 = .ok (.iadd, 1) := by decide +kernel
theorem dX4_writeFile_104 : decode cX4_writeFile 104 = .ok (.ireturn, 1) := by decide +kernel
def b_X4_writeFile_4 (x1 : Int32) (rec : Int32 → Int32 → Mem → Int32 × Int32 × Mem) (v2 : Int32) (v3 : Int32) (N : Mem) : Int32 × Int32 × Mem :=
  if 12 ≤ v3 then (v2, v3, N)
  else if (f_X2_holds (f_X4_blockPointer x1 v3) N) then zlet (f_X3_keepValue (f_X4_blockPointer x1 v3) (f_X2_changeOf (f_X4_blockPointer x1 v3) N) N) (fun N1 =>
    zlet (f_X4_repoint (f_X4_blockPointer x1 v3) (((31 * (f_X2_changeOf (f_X4_blockPointer x1 v3) N)) + 17) - ((31 * (f_X2_changeOf (f_X4_blockPointer x1 v3) N)) + 17) / 65521 * 65521) N1) (fun q2 =>
      rec (v2 + q2.1) (v3 + 1) q2.2))
  else rec v2 (v3 + 1) N
def l_X4_writeFile_4 (x1 : Int32) : Nat → Int32 → Int32 → Mem → Int32 × Int32 × Mem
  | 0, v2, v3, N => (v2, v3, N)
  | n + 1, v2, v3, N => b_X4_writeFile_4 x1 (l_X4_writeFile_4 x1 n) v2 v3 N
set_option maxRecDepth 100000 in
set_option maxHeartbeats 4000000 in
theorem kl_X4_writeFile_4 (q : ZQ) (x1 : Int32) {K : Int32 × Int32 × Mem → ZR} (hx : ∀ e : Int32 × Int32 × Mem, Zg (zgX q) mX4_writeFile 0 0 0 0 (K e) 78 [some (.inr 0), some (.inl x1), some (.inl e.1), some (.inl e.2.1), none, none] [] e.2.2) :
    ∀ (n : Nat) (v2 : Int32) (v3 : Int32) (N : Mem), ((12 : Int32).toInt - (v3 : Int32).toInt).toNat < n → Zg (zgX q) mX4_writeFile 0 0 0 0 (zlet (l_X4_writeFile_4 x1 n v2 v3 N) K) 4 [some (.inr 0), some (.inl x1), some (.inl v2), some (.inl v3), none, none] [] N := by
  intro n
  induction n with
  | zero => intro v2 v3 N hm; exact absurd hm (Nat.not_lt_zero _)
  | succ n ih =>
    intro v2 v3 N hm
    show Zg _ _ _ _ _ _ (zlet (b_X4_writeFile_4 x1 (l_X4_writeFile_4 x1 n) v2 v3 N) K) _ _ _ _
    unfold b_X4_writeFile_4
    refine zg_iload_n (x := v3) dX4_writeFile_4 rfl ?_
    refine zg_bipush (v := 12) dX4_writeFile_5 rfl ?_
    refine zg_icmpz (tgt := 78) dX4_writeFile_7 rfl rfl (fun c7 => ?_) (fun c7 => ?_)
    · refine zg_st (pc' := 78) (L' := [some (.inr 0), some (.inl x1), some (.inl v2), some (.inl v3), none, none]) (S' := []) (M' := N) rfl rfl rfl rfl ?_
      refine zg_drop (L' := [some (.inr 0), some (.inl x1), some (.inl v2), some (.inl v3), none, none]) ⟨rfl, rfl, rfl, rfl, trivial⟩ ?_
      exact hx (v2, v3, N)
    · refine zg_st (pc' := 10) (L' := [some (.inr 0), some (.inl x1), some (.inl v2), some (.inl v3), none, none]) (S' := []) (M' := N) rfl rfl rfl rfl ?_
      refine zg_iload_n (x := x1) dX4_writeFile_10 rfl ?_
      refine zg_iload_n (x := v3) dX4_writeFile_11 rfl ?_
      refine zg_cS1 (As := [.inl x1, .inl v3]) (S := []) (v := (f_X4_blockPointer x1 v3)) dX4_writeFile_12 zk_X4_66 (k_X4_blockPointer q x1 v3 N) rfl ⟨by decide, by decide⟩ ⟨by decide, by decide⟩ rfl (Nat.le_of_ble_eq_true rfl) ?_
      refine zg_st (pc' := 15) (L' := [some (.inr 0), some (.inl x1), some (.inl v2), some (.inl v3), none, none]) (S' := [.inl (f_X4_blockPointer x1 v3)]) (M' := N) rfl rfl rfl rfl ?_
      refine zg_istore dX4_writeFile_15 (by decide) ?_
      refine zg_st (pc' := 17) (L' := [some (.inr 0), some (.inl x1), some (.inl v2), some (.inl v3), some (.inl (f_X4_blockPointer x1 v3)), none]) (S' := []) (M' := N) rfl rfl rfl rfl ?_
      refine zg_aload_n (x := 0) dX4_writeFile_17 rfl ?_
      refine zg_getf (v := .inr 3) dX4_writeFile_18 zf_X4_26 rfl rfl rfl ?_
      refine zg_iload (x := (f_X4_blockPointer x1 v3)) dX4_writeFile_21 rfl ?_
      refine zg_cV1 (As := [.inl (f_X4_blockPointer x1 v3)]) (S := []) (v := bI ((f_X2_holds (f_X4_blockPointer x1 v3) N))) dX4_writeFile_23 zk_X4_86 (k_X2_holds q (f_X4_blockPointer x1 v3) N) rfl rfl ⟨by decide, by decide⟩ ⟨by decide, by decide⟩ rfl (Nat.le_of_ble_eq_true rfl) ?_
      refine zg_st (pc' := 26) (L' := [some (.inr 0), some (.inl x1), some (.inl v2), some (.inl v3), some (.inl (f_X4_blockPointer x1 v3)), none]) (S' := [.inl (bI ((f_X2_holds (f_X4_blockPointer x1 v3) N)))]) (M' := N) rfl rfl rfl rfl ?_
      refine zg_ifbe (tgt := 72) dX4_writeFile_26 rfl (fun c26 => ?_) (fun c26 => ?_)
      · refine zg_st (pc' := 29) (L' := [some (.inr 0), some (.inl x1), some (.inl v2), some (.inl v3), some (.inl (f_X4_blockPointer x1 v3)), none]) (S' := []) (M' := N) rfl rfl rfl rfl ?_
        refine zg_aload_n (x := 0) dX4_writeFile_29 rfl ?_
        refine zg_getf (v := .inr 3) dX4_writeFile_30 zf_X4_26 rfl rfl rfl ?_
        refine zg_iload (x := (f_X4_blockPointer x1 v3)) dX4_writeFile_33 rfl ?_
        refine zg_cV1 (As := [.inl (f_X4_blockPointer x1 v3)]) (S := []) (v := (f_X2_changeOf (f_X4_blockPointer x1 v3) N)) dX4_writeFile_35 zk_X4_89 (k_X2_changeOf q (f_X4_blockPointer x1 v3) N) rfl rfl ⟨by decide, by decide⟩ ⟨by decide, by decide⟩ rfl (Nat.le_of_ble_eq_true rfl) ?_
        refine zg_st (pc' := 38) (L' := [some (.inr 0), some (.inl x1), some (.inl v2), some (.inl v3), some (.inl (f_X4_blockPointer x1 v3)), none]) (S' := [.inl (f_X2_changeOf (f_X4_blockPointer x1 v3) N)]) (M' := N) rfl rfl rfl rfl ?_
        refine zg_istore dX4_writeFile_38 (by decide) ?_
        refine zg_st (pc' := 40) (L' := [some (.inr 0), some (.inl x1), some (.inl v2), some (.inl v3), some (.inl (f_X4_blockPointer x1 v3)), some (.inl (f_X2_changeOf (f_X4_blockPointer x1 v3) N))]) (S' := []) (M' := N) rfl rfl rfl rfl ?_
        refine zg_aload_n (x := 0) dX4_writeFile_40 rfl ?_
        refine zg_getf (v := .inr 2) dX4_writeFile_41 zf_X4_19 rfl rfl rfl ?_
        refine zg_iload (x := (f_X4_blockPointer x1 v3)) dX4_writeFile_44 rfl ?_
        refine zg_iload (x := (f_X2_changeOf (f_X4_blockPointer x1 v3) N)) dX4_writeFile_46 rfl ?_
        refine zg_cVV (As := [.inl (f_X4_blockPointer x1 v3), .inl (f_X2_changeOf (f_X4_blockPointer x1 v3) N)]) (S := []) dX4_writeFile_48 zk_X4_266 (k_X3_keepValue q (f_X4_blockPointer x1 v3) (f_X2_changeOf (f_X4_blockPointer x1 v3) N) N) rfl rfl ⟨by decide, by decide⟩ ⟨by decide, by decide⟩ rfl (Nat.le_of_ble_eq_true rfl) (fun N1 e_N1 => ?_)
        try dsimp only
        refine zg_st (pc' := 51) (L' := [some (.inr 0), some (.inl x1), some (.inl v2), some (.inl v3), some (.inl (f_X4_blockPointer x1 v3)), some (.inl (f_X2_changeOf (f_X4_blockPointer x1 v3) N))]) (S' := []) (M' := N1) rfl rfl rfl rfl ?_
        refine zg_iload_n (x := v2) dX4_writeFile_51 rfl ?_
        refine zg_aload_n (x := 0) dX4_writeFile_52 rfl ?_
        refine zg_iload (x := (f_X4_blockPointer x1 v3)) dX4_writeFile_53 rfl ?_
        refine zg_bipush (v := 31) dX4_writeFile_55 rfl ?_
        refine zg_iload (x := (f_X2_changeOf (f_X4_blockPointer x1 v3) N)) dX4_writeFile_57 rfl ?_
        refine zg_imul dX4_writeFile_59 ?_
        refine zg_bipush (v := 17) dX4_writeFile_60 rfl ?_
        refine zg_iadd dX4_writeFile_62 ?_
        refine zg_ldcw (v := 65521) dX4_writeFile_63 (zm3 143 (by decide +kernel) rfl) ?_
        refine zg_irem dX4_writeFile_66 (by decide) ?_
        refine zg_cVIM (As := [.inl (f_X4_blockPointer x1 v3), .inl (((31 * (f_X2_changeOf (f_X4_blockPointer x1 v3) N)) + 17) - ((31 * (f_X2_changeOf (f_X4_blockPointer x1 v3) N)) + 17) / 65521 * 65521)]) (S := [.inl v2]) dX4_writeFile_67 zk_X4_263 (k_X4_repoint q (f_X4_blockPointer x1 v3) (((31 * (f_X2_changeOf (f_X4_blockPointer x1 v3) N)) + 17) - ((31 * (f_X2_changeOf (f_X4_blockPointer x1 v3) N)) + 17) / 65521 * 65521) N1) rfl rfl ⟨by decide, by decide⟩ ⟨by decide, by decide⟩ rfl (Nat.le_of_ble_eq_true rfl) (fun q2 e_q2 => ?_)
        try dsimp only
        refine zg_st (pc' := 70) (L' := [some (.inr 0), some (.inl x1), some (.inl v2), some (.inl v3), some (.inl (f_X4_blockPointer x1 v3)), some (.inl (f_X2_changeOf (f_X4_blockPointer x1 v3) N))]) (S' := [.inl q2.1, .inl v2]) (M' := q2.2) rfl rfl rfl rfl ?_
        refine zg_iadd dX4_writeFile_70 ?_
        refine zg_istore_n dX4_writeFile_71 (by decide) ?_
        refine zg_st (pc' := 72) (L' := [some (.inr 0), some (.inl x1), some (.inl (v2 + q2.1)), some (.inl v3), some (.inl (f_X4_blockPointer x1 v3)), some (.inl (f_X2_changeOf (f_X4_blockPointer x1 v3) N))]) (S' := []) (M' := q2.2) rfl rfl rfl rfl ?_
        refine zg_iinc (v := (v3 + 1)) dX4_writeFile_72 rfl (by decide) rfl ?_
        refine zg_st (pc' := 75) (L' := [some (.inr 0), some (.inl x1), some (.inl (v2 + q2.1)), some (.inl (v3 + 1)), some (.inl (f_X4_blockPointer x1 v3)), some (.inl (f_X2_changeOf (f_X4_blockPointer x1 v3) N))]) (S' := []) (M' := q2.2) rfl rfl rfl rfl ?_
        refine zg_goto (tgt := 4) dX4_writeFile_75 rfl ?_
        refine zg_st (pc' := 4) (L' := [some (.inr 0), some (.inl x1), some (.inl (v2 + q2.1)), some (.inl (v3 + 1)), some (.inl (f_X4_blockPointer x1 v3)), some (.inl (f_X2_changeOf (f_X4_blockPointer x1 v3) N))]) (S' := []) (M' := q2.2) rfl rfl rfl rfl ?_
        refine zg_drop (L' := [some (.inr 0), some (.inl x1), some (.inl (v2 + q2.1)), some (.inl (v3 + 1)), none, none]) ⟨rfl, rfl, rfl, rfl, trivial⟩ ?_
        exact ih (v2 + q2.1) (v3 + 1) q2.2 (z_up c7 hm)
      · refine zg_st (pc' := 72) (L' := [some (.inr 0), some (.inl x1), some (.inl v2), some (.inl v3), some (.inl (f_X4_blockPointer x1 v3)), none]) (S' := []) (M' := N) rfl rfl rfl rfl ?_
        refine zg_iinc (v := (v3 + 1)) dX4_writeFile_72 rfl (by decide) rfl ?_
        refine zg_st (pc' := 75) (L' := [some (.inr 0), some (.inl x1), some (.inl v2), some (.inl (v3 + 1)), some (.inl (f_X4_blockPointer x1 v3)), none]) (S' := []) (M' := N) rfl rfl rfl rfl ?_
        refine zg_goto (tgt := 4) dX4_writeFile_75 rfl ?_
        refine zg_st (pc' := 4) (L' := [some (.inr 0), some (.inl x1), some (.inl v2), some (.inl (v3 + 1)), some (.inl (f_X4_blockPointer x1 v3)), none]) (S' := []) (M' := N) rfl rfl rfl rfl ?_
        refine zg_drop (L' := [some (.inr 0), some (.inl x1), some (.inl v2), some (.inl (v3 + 1)), none, none]) ⟨rfl, rfl, rfl, rfl, trivial⟩ ?_
        exact ih v2 (v3 + 1) N (z_up c7 hm)
def f_X4_writeFile (p1 : Int32) (M : Mem) : (Int32 × Mem) :=
  zlet (l_X4_writeFile_4 p1 13 0 0 M) (fun s3 =>
  zlet (f_X4_repoint (f_X4_filePointer p1) (f_X3_checksumOfNode (f_X4_blockPointer p1 0) 12 s3.2.2) s3.2.2) (fun q4 =>
    ((s3.1 + q4.1), q4.2)))
set_option maxRecDepth 100000 in
set_option maxHeartbeats 4000000 in
theorem k_X4_writeFile (q : ZQ) (p1 : Int32) (M : Mem) : Zc (zgX q) mX4_writeFile 0 0 [.inr 0, .inl p1] M (wIM (f_X4_writeFile p1 M)) := by
  refine Zc.of (by decide) zi_X4_writeFile.1 (Nat.le_of_ble_eq_true rfl) rfl ?_
  show Zg _ _ _ _ _ _ (zlet (f_X4_writeFile p1 M) wIM) _ _ _ _
  unfold f_X4_writeFile
  refine zg_iconst (v := 0) dX4_writeFile_0 rfl ?_
  refine zg_istore_n dX4_writeFile_1 (by decide) ?_
  refine zg_st (pc' := 2) (L' := [some (.inr 0), some (.inl p1), some (.inl 0), none, none, none]) (S' := []) (M' := M) rfl rfl rfl rfl ?_
  refine zg_iconst (v := 0) dX4_writeFile_2 rfl ?_
  refine zg_istore_n dX4_writeFile_3 (by decide) ?_
  refine zg_st (pc' := 4) (L' := [some (.inr 0), some (.inl p1), some (.inl 0), some (.inl 0), none, none]) (S' := []) (M' := M) rfl rfl rfl rfl ?_
  refine zg_asc ?_
  refine zg_drop (L' := [some (.inr 0), some (.inl p1), some (.inl 0), some (.inl 0), none, none]) ⟨rfl, rfl, rfl, rfl, trivial⟩ ?_
  refine kl_X4_writeFile_4 q p1  (fun s3 => ?_) 13 0 0 M (by decide)
  try dsimp only [Sum.elim_inr]
  refine zg_st (pc' := 78) (L' := [some (.inr 0), some (.inl p1), some (.inl s3.1), some (.inl s3.2.1), none, none]) (S' := []) (M' := s3.2.2) rfl rfl rfl rfl ?_
  refine zg_iload_n (x := p1) dX4_writeFile_78 rfl ?_
  refine zg_cS1 (As := [.inl p1]) (S := []) (v := (f_X4_filePointer p1)) dX4_writeFile_79 zk_X4_93 (k_X4_filePointer q p1 s3.2.2) rfl ⟨by decide, by decide⟩ ⟨by decide, by decide⟩ rfl (Nat.le_of_ble_eq_true rfl) ?_
  refine zg_st (pc' := 82) (L' := [some (.inr 0), some (.inl p1), some (.inl s3.1), some (.inl s3.2.1), none, none]) (S' := [.inl (f_X4_filePointer p1)]) (M' := s3.2.2) rfl rfl rfl rfl ?_
  refine zg_istore_n dX4_writeFile_82 (by decide) ?_
  refine zg_st (pc' := 83) (L' := [some (.inr 0), some (.inl p1), some (.inl s3.1), some (.inl (f_X4_filePointer p1)), none, none]) (S' := []) (M' := s3.2.2) rfl rfl rfl rfl ?_
  refine zg_iload_n (x := s3.1) dX4_writeFile_83 rfl ?_
  refine zg_aload_n (x := 0) dX4_writeFile_84 rfl ?_
  refine zg_iload_n (x := (f_X4_filePointer p1)) dX4_writeFile_85 rfl ?_
  refine zg_aload_n (x := 0) dX4_writeFile_86 rfl ?_
  refine zg_getf (v := .inr 2) dX4_writeFile_87 zf_X4_19 rfl rfl rfl ?_
  refine zg_iload_n (x := p1) dX4_writeFile_90 rfl ?_
  refine zg_iconst (v := 0) dX4_writeFile_91 rfl ?_
  refine zg_cS1 (As := [.inl p1, .inl 0]) (S := [.inr 2, .inl (f_X4_filePointer p1), .inr 0, .inl s3.1]) (v := (f_X4_blockPointer p1 0)) dX4_writeFile_92 zk_X4_66 (k_X4_blockPointer q p1 0 s3.2.2) rfl ⟨by decide, by decide⟩ ⟨by decide, by decide⟩ rfl (Nat.le_of_ble_eq_true rfl) ?_
  refine zg_st (pc' := 95) (L' := [some (.inr 0), some (.inl p1), some (.inl s3.1), some (.inl (f_X4_filePointer p1)), none, none]) (S' := [.inl (f_X4_blockPointer p1 0), .inr 2, .inl (f_X4_filePointer p1), .inr 0, .inl s3.1]) (M' := s3.2.2) rfl rfl rfl rfl ?_
  refine zg_bipush (v := 12) dX4_writeFile_95 rfl ?_
  refine zg_cV1 (As := [.inl (f_X4_blockPointer p1 0), .inl 12]) (S := [.inl (f_X4_filePointer p1), .inr 0, .inl s3.1]) (v := (f_X3_checksumOfNode (f_X4_blockPointer p1 0) 12 s3.2.2)) dX4_writeFile_97 zk_X4_260 (k_X3_checksumOfNode q (f_X4_blockPointer p1 0) 12 s3.2.2) rfl rfl ⟨by decide, by decide⟩ ⟨by decide, by decide⟩ rfl (Nat.le_of_ble_eq_true rfl) ?_
  refine zg_st (pc' := 100) (L' := [some (.inr 0), some (.inl p1), some (.inl s3.1), some (.inl (f_X4_filePointer p1)), none, none]) (S' := [.inl (f_X3_checksumOfNode (f_X4_blockPointer p1 0) 12 s3.2.2), .inl (f_X4_filePointer p1), .inr 0, .inl s3.1]) (M' := s3.2.2) rfl rfl rfl rfl ?_
  refine zg_cVIM (As := [.inl (f_X4_filePointer p1), .inl (f_X3_checksumOfNode (f_X4_blockPointer p1 0) 12 s3.2.2)]) (S := [.inl s3.1]) dX4_writeFile_100 zk_X4_263 (k_X4_repoint q (f_X4_filePointer p1) (f_X3_checksumOfNode (f_X4_blockPointer p1 0) 12 s3.2.2) s3.2.2) rfl rfl ⟨by decide, by decide⟩ ⟨by decide, by decide⟩ rfl (Nat.le_of_ble_eq_true rfl) (fun q4 e_q4 => ?_)
  try dsimp only
  refine zg_st (pc' := 103) (L' := [some (.inr 0), some (.inl p1), some (.inl s3.1), some (.inl (f_X4_filePointer p1)), none, none]) (S' := [.inl q4.1, .inl s3.1]) (M' := q4.2) rfl rfl rfl rfl ?_
  refine zg_iadd dX4_writeFile_103 ?_
  exact zg_iret dX4_writeFile_104 rfl rfl ⟨by decide, by decide⟩ rfl
theorem dX4_writeChanges_0 : decode cX4_writeChanges 0 = .ok (.iconst 0, 1) := by decide +kernel
theorem dX4_writeChanges_1 : decode cX4_writeChanges 1 = .ok (.istore_n 1, 1) := by decide +kernel
theorem dX4_writeChanges_2 : decode cX4_writeChanges 2 = .ok (.iconst 0, 1) := by decide +kernel
theorem dX4_writeChanges_3 : decode cX4_writeChanges 3 = .ok (.istore_n 2, 1) := by decide +kernel
theorem dX4_writeChanges_4 : decode cX4_writeChanges 4 = .ok (.iload_n 2, 1) := by decide +kernel
theorem dX4_writeChanges_5 : decode cX4_writeChanges 5 = .ok (.iconst 4, 1) := by decide +kernel
theorem dX4_writeChanges_6 : decode cX4_writeChanges 6 = .ok (.if_icmp .ge 28, 3) := by decide +kernel
theorem dX4_writeChanges_9 : decode cX4_writeChanges 9 = .ok (.aload_n 0, 1) := by decide +kernel
theorem dX4_writeChanges_10 : decode cX4_writeChanges 10 = .ok (.getfield 26, 3) := by decide +kernel
theorem dX4_writeChanges_13 : decode cX4_writeChanges 13 = .ok (.iload_n 2, 1) := by decide +kernel
theorem dX4_writeChanges_14 : decode cX4_writeChanges 14 = .ok (.invokevirtual 244, 3) := by decide +kernel
theorem dX4_writeChanges_17 : decode cX4_writeChanges 17 = .ok (.ifCond .eq 11, 3) := by decide +kernel
theorem dX4_writeChanges_20 : decode cX4_writeChanges 20 = .ok (.iload_n 1, 1) := by decide +kernel
theorem dX4_writeChanges_21 : decode cX4_writeChanges 21 = .ok (.aload_n 0, 1) := by decide +kernel
theorem dX4_writeChanges_22 : decode cX4_writeChanges 22 = .ok (.iload_n 2, 1) := by decide +kernel
theorem dX4_writeChanges_23 : decode cX4_writeChanges 23 = .ok (.invokevirtual 257, 3) := by decide +kernel
theorem dX4_writeChanges_26 : decode cX4_writeChanges 26 = .ok (.iadd, 1) := by decide +kernel
theorem dX4_writeChanges_27 : decode cX4_writeChanges 27 = .ok (.istore_n 1, 1) := by decide +kernel
theorem dX4_writeChanges_28 : decode cX4_writeChanges 28 = .ok (.iinc 2 1, 3) := by decide +kernel
theorem dX4_writeChanges_31 : decode cX4_writeChanges 31 = .ok (.goto (-27), 3) := by decide +kernel
theorem dX4_writeChanges_34 : decode cX4_writeChanges 34 = .ok (.iload_n 1, 1) := by decide +kernel
theorem dX4_writeChanges_35 : decode cX4_writeChanges 35 = .ok (.aload_n 0, 1) := by decide +kernel
theorem dX4_writeChanges_36 : decode cX4_writeChanges 36 = .ok (.bipush 52, 2) := by decide +kernel
theorem dX4_writeChanges_38 : decode cX4_writeChanges 38 = .ok (.aload_n 0, 1) := by decide +kernel
theorem dX4_writeChanges_39 : decode cX4_writeChanges 39 = .ok (.getfield 19, 3) := by decide +kernel
theorem dX4_writeChanges_42 : decode cX4_writeChanges 42 = .ok (.bipush 48, 2) := by decide +kernel
theorem dX4_writeChanges_44 : decode cX4_writeChanges 44 = .ok (.iconst 4, 1) := by decide +kernel
theorem dX4_writeChanges_45 : decode cX4_writeChanges 45 = .ok (.invokevirtual 260, 3) := by decide +kernel
theorem dX4_writeChanges_48 : decode cX4_writeChanges 48 = .ok (.invokevirtual 263, 3) := by decide +kernel
theorem dX4_writeChanges_51 : decode cX4_writeChanges 51 = .ok (.iadd, 1) := by decide +kernel
theorem dX4_writeChanges_52 : decode cX4_writeChanges 52 = .ok (.ireturn, 1) := by decide +kernel
def b_X4_writeChanges_4 (rec : Int32 → Int32 → Mem → Int32 × Int32 × Mem) (v1 : Int32) (v2 : Int32) (N : Mem) : Int32 × Int32 × Mem :=
  if 4 ≤ v2 then (v1, v2, N)
  else if (f_X2_changes v2 N) then zlet (f_X4_writeFile v2 N) (fun q1 =>
    rec (v1 + q1.1) (v2 + 1) q1.2)
  else rec v1 (v2 + 1) N
def l_X4_writeChanges_4 : Nat → Int32 → Int32 → Mem → Int32 × Int32 × Mem
  | 0, v1, v2, N => (v1, v2, N)
  | n + 1, v1, v2, N => b_X4_writeChanges_4 (l_X4_writeChanges_4 n) v1 v2 N
set_option maxRecDepth 100000 in
set_option maxHeartbeats 4000000 in
theorem kl_X4_writeChanges_4 (q : ZQ) {K : Int32 × Int32 × Mem → ZR} (hx : ∀ e : Int32 × Int32 × Mem, Zg (zgX q) mX4_writeChanges 0 0 0 0 (K e) 34 [some (.inr 0), some (.inl e.1), some (.inl e.2.1)] [] e.2.2) :
    ∀ (n : Nat) (v1 : Int32) (v2 : Int32) (N : Mem), ((4 : Int32).toInt - (v2 : Int32).toInt).toNat < n → Zg (zgX q) mX4_writeChanges 0 0 0 0 (zlet (l_X4_writeChanges_4 n v1 v2 N) K) 4 [some (.inr 0), some (.inl v1), some (.inl v2)] [] N := by
  intro n
  induction n with
  | zero => intro v1 v2 N hm; exact absurd hm (Nat.not_lt_zero _)
  | succ n ih =>
    intro v1 v2 N hm
    show Zg _ _ _ _ _ _ (zlet (b_X4_writeChanges_4 (l_X4_writeChanges_4 n) v1 v2 N) K) _ _ _ _
    unfold b_X4_writeChanges_4
    refine zg_iload_n (x := v2) dX4_writeChanges_4 rfl ?_
    refine zg_iconst (v := 4) dX4_writeChanges_5 rfl ?_
    refine zg_icmpz (tgt := 34) dX4_writeChanges_6 rfl rfl (fun c6 => ?_) (fun c6 => ?_)
    · refine zg_st (pc' := 34) (L' := [some (.inr 0), some (.inl v1), some (.inl v2)]) (S' := []) (M' := N) rfl rfl rfl rfl ?_
      refine zg_drop (L' := [some (.inr 0), some (.inl v1), some (.inl v2)]) ⟨rfl, rfl, rfl, trivial⟩ ?_
      exact hx (v1, v2, N)
    · refine zg_st (pc' := 9) (L' := [some (.inr 0), some (.inl v1), some (.inl v2)]) (S' := []) (M' := N) rfl rfl rfl rfl ?_
      refine zg_aload_n (x := 0) dX4_writeChanges_9 rfl ?_
      refine zg_getf (v := .inr 3) dX4_writeChanges_10 zf_X4_26 rfl rfl rfl ?_
      refine zg_iload_n (x := v2) dX4_writeChanges_13 rfl ?_
      refine zg_cV1 (As := [.inl v2]) (S := []) (v := bI ((f_X2_changes v2 N))) dX4_writeChanges_14 zk_X4_244 (k_X2_changes q v2 N) rfl rfl ⟨by decide, by decide⟩ ⟨by decide, by decide⟩ rfl (Nat.le_of_ble_eq_true rfl) ?_
      refine zg_st (pc' := 17) (L' := [some (.inr 0), some (.inl v1), some (.inl v2)]) (S' := [.inl (bI ((f_X2_changes v2 N)))]) (M' := N) rfl rfl rfl rfl ?_
      refine zg_ifbe (tgt := 28) dX4_writeChanges_17 rfl (fun c17 => ?_) (fun c17 => ?_)
      · refine zg_st (pc' := 20) (L' := [some (.inr 0), some (.inl v1), some (.inl v2)]) (S' := []) (M' := N) rfl rfl rfl rfl ?_
        refine zg_iload_n (x := v1) dX4_writeChanges_20 rfl ?_
        refine zg_aload_n (x := 0) dX4_writeChanges_21 rfl ?_
        refine zg_iload_n (x := v2) dX4_writeChanges_22 rfl ?_
        refine zg_cVIM (As := [.inl v2]) (S := [.inl v1]) dX4_writeChanges_23 zk_X4_257 (k_X4_writeFile q v2 N) rfl rfl ⟨by decide, by decide⟩ ⟨by decide, by decide⟩ rfl (Nat.le_of_ble_eq_true rfl) (fun q1 e_q1 => ?_)
        try dsimp only
        refine zg_st (pc' := 26) (L' := [some (.inr 0), some (.inl v1), some (.inl v2)]) (S' := [.inl q1.1, .inl v1]) (M' := q1.2) rfl rfl rfl rfl ?_
        refine zg_iadd dX4_writeChanges_26 ?_
        refine zg_istore_n dX4_writeChanges_27 (by decide) ?_
        refine zg_st (pc' := 28) (L' := [some (.inr 0), some (.inl (v1 + q1.1)), some (.inl v2)]) (S' := []) (M' := q1.2) rfl rfl rfl rfl ?_
        refine zg_iinc (v := (v2 + 1)) dX4_writeChanges_28 rfl (by decide) rfl ?_
        refine zg_st (pc' := 31) (L' := [some (.inr 0), some (.inl (v1 + q1.1)), some (.inl (v2 + 1))]) (S' := []) (M' := q1.2) rfl rfl rfl rfl ?_
        refine zg_goto (tgt := 4) dX4_writeChanges_31 rfl ?_
        refine zg_st (pc' := 4) (L' := [some (.inr 0), some (.inl (v1 + q1.1)), some (.inl (v2 + 1))]) (S' := []) (M' := q1.2) rfl rfl rfl rfl ?_
        refine zg_drop (L' := [some (.inr 0), some (.inl (v1 + q1.1)), some (.inl (v2 + 1))]) ⟨rfl, rfl, rfl, trivial⟩ ?_
        exact ih (v1 + q1.1) (v2 + 1) q1.2 (z_up c6 hm)
      · refine zg_st (pc' := 28) (L' := [some (.inr 0), some (.inl v1), some (.inl v2)]) (S' := []) (M' := N) rfl rfl rfl rfl ?_
        refine zg_iinc (v := (v2 + 1)) dX4_writeChanges_28 rfl (by decide) rfl ?_
        refine zg_st (pc' := 31) (L' := [some (.inr 0), some (.inl v1), some (.inl (v2 + 1))]) (S' := []) (M' := N) rfl rfl rfl rfl ?_
        refine zg_goto (tgt := 4) dX4_writeChanges_31 rfl ?_
        refine zg_st (pc' := 4) (L' := [some (.inr 0), some (.inl v1), some (.inl (v2 + 1))]) (S' := []) (M' := N) rfl rfl rfl rfl ?_
        refine zg_drop (L' := [some (.inr 0), some (.inl v1), some (.inl (v2 + 1))]) ⟨rfl, rfl, rfl, trivial⟩ ?_
        exact ih v1 (v2 + 1) N (z_up c6 hm)
def f_X4_writeChanges (M : Mem) : (Int32 × Mem) :=
  zlet (l_X4_writeChanges_4 5 0 0 M) (fun s2 =>
  zlet (f_X4_repoint 52 (f_X3_checksumOfNode 48 4 s2.2.2) s2.2.2) (fun q3 =>
    ((s2.1 + q3.1), q3.2)))
set_option maxRecDepth 100000 in
set_option maxHeartbeats 4000000 in
theorem k_X4_writeChanges (q : ZQ) (M : Mem) : Zc (zgX q) mX4_writeChanges 0 0 [.inr 0] M (wIM (f_X4_writeChanges M)) := by
  refine Zc.of (by decide) zi_X4_writeChanges.1 (Nat.le_of_ble_eq_true rfl) rfl ?_
  show Zg _ _ _ _ _ _ (zlet (f_X4_writeChanges M) wIM) _ _ _ _
  unfold f_X4_writeChanges
  refine zg_iconst (v := 0) dX4_writeChanges_0 rfl ?_
  refine zg_istore_n dX4_writeChanges_1 (by decide) ?_
  refine zg_st (pc' := 2) (L' := [some (.inr 0), some (.inl 0), none]) (S' := []) (M' := M) rfl rfl rfl rfl ?_
  refine zg_iconst (v := 0) dX4_writeChanges_2 rfl ?_
  refine zg_istore_n dX4_writeChanges_3 (by decide) ?_
  refine zg_st (pc' := 4) (L' := [some (.inr 0), some (.inl 0), some (.inl 0)]) (S' := []) (M' := M) rfl rfl rfl rfl ?_
  refine zg_asc ?_
  refine zg_drop (L' := [some (.inr 0), some (.inl 0), some (.inl 0)]) ⟨rfl, rfl, rfl, trivial⟩ ?_
  refine kl_X4_writeChanges_4 q  (fun s2 => ?_) 5 0 0 M (by decide)
  try dsimp only [Sum.elim_inr]
  refine zg_st (pc' := 34) (L' := [some (.inr 0), some (.inl s2.1), some (.inl s2.2.1)]) (S' := []) (M' := s2.2.2) rfl rfl rfl rfl ?_
  refine zg_iload_n (x := s2.1) dX4_writeChanges_34 rfl ?_
  refine zg_aload_n (x := 0) dX4_writeChanges_35 rfl ?_
  refine zg_bipush (v := 52) dX4_writeChanges_36 rfl ?_
  refine zg_aload_n (x := 0) dX4_writeChanges_38 rfl ?_
  refine zg_getf (v := .inr 2) dX4_writeChanges_39 zf_X4_19 rfl rfl rfl ?_
  refine zg_bipush (v := 48) dX4_writeChanges_42 rfl ?_
  refine zg_iconst (v := 4) dX4_writeChanges_44 rfl ?_
  refine zg_cV1 (As := [.inl 48, .inl 4]) (S := [.inl 52, .inr 0, .inl s2.1]) (v := (f_X3_checksumOfNode 48 4 s2.2.2)) dX4_writeChanges_45 zk_X4_260 (k_X3_checksumOfNode q 48 4 s2.2.2) rfl rfl ⟨by decide, by decide⟩ ⟨by decide, by decide⟩ rfl (Nat.le_of_ble_eq_true rfl) ?_
  refine zg_st (pc' := 48) (L' := [some (.inr 0), some (.inl s2.1), some (.inl s2.2.1)]) (S' := [.inl (f_X3_checksumOfNode 48 4 s2.2.2), .inl 52, .inr 0, .inl s2.1]) (M' := s2.2.2) rfl rfl rfl rfl ?_
  refine zg_cVIM (As := [.inl 52, .inl (f_X3_checksumOfNode 48 4 s2.2.2)]) (S := [.inl s2.1]) dX4_writeChanges_48 zk_X4_263 (k_X4_repoint q 52 (f_X3_checksumOfNode 48 4 s2.2.2) s2.2.2) rfl rfl ⟨by decide, by decide⟩ ⟨by decide, by decide⟩ rfl (Nat.le_of_ble_eq_true rfl) (fun q3 e_q3 => ?_)
  try dsimp only
  refine zg_st (pc' := 51) (L' := [some (.inr 0), some (.inl s2.1), some (.inl s2.2.1)]) (S' := [.inl q3.1, .inl s2.1]) (M' := q3.2) rfl rfl rfl rfl ?_
  refine zg_iadd dX4_writeChanges_51 ?_
  exact zg_iret dX4_writeChanges_52 rfl rfl ⟨by decide, by decide⟩ rfl
theorem dX4_freeWhatIsNotPointedTo_0 : decode cX4_freeWhatIsNotPointedTo 0 = .ok (.aload_n 0, 1) := by decide +kernel
theorem dX4_freeWhatIsNotPointedTo_1 : decode cX4_freeWhatIsNotPointedTo 1 = .ok (.getfield 12, 3) := by decide +kernel
theorem dX4_freeWhatIsNotPointedTo_4 : decode cX4_freeWhatIsNotPointedTo 4 = .ok (.invokevirtual 288, 3) := by decide +kernel
theorem dX4_freeWhatIsNotPointedTo_7 : decode cX4_freeWhatIsNotPointedTo 7 = .ok (.iconst 0, 1) := by decide +kernel
theorem dX4_freeWhatIsNotPointedTo_8 : decode cX4_freeWhatIsNotPointedTo 8 = .ok (.istore_n 1, 1) := by decide +kernel
theorem dX4_freeWhatIsNotPointedTo_9 : decode cX4_freeWhatIsNotPointedTo 9 = .ok (.iload_n 1, 1) := by decide +kernel
theorem dX4_freeWhatIsNotPointedTo_10 : decode cX4_freeWhatIsNotPointedTo 10 = .ok (.bipush 53, 2) := by decide +kernel
theorem dX4_freeWhatIsNotPointedTo_12 : decode cX4_freeWhatIsNotPointedTo 12 = .ok (.if_icmp .ge 38, 3) := by decide +kernel
theorem dX4_freeWhatIsNotPointedTo_15 : decode cX4_freeWhatIsNotPointedTo 15 = .ok (.iconst 0, 1) := by decide +kernel
theorem dX4_freeWhatIsNotPointedTo_16 : decode cX4_freeWhatIsNotPointedTo 16 = .ok (.istore_n 2, 1) := by decide +kernel
theorem dX4_freeWhatIsNotPointedTo_17 : decode cX4_freeWhatIsNotPointedTo 17 = .ok (.iload_n 2, 1) := by decide +kernel
theorem dX4_freeWhatIsNotPointedTo_18 : decode cX4_freeWhatIsNotPointedTo 18 = .ok (.iconst 2, 1) := by decide +kernel
theorem dX4_freeWhatIsNotPointedTo_19 : decode cX4_freeWhatIsNotPointedTo 19 = .ok (.if_icmp .ge 25, 3) := by decide +kernel
theorem dX4_freeWhatIsNotPointedTo_22 : decode cX4_freeWhatIsNotPointedTo 22 = .ok (.aload_n 0, 1) := by decide +kernel
theorem dX4_freeWhatIsNotPointedTo_23 : decode cX4_freeWhatIsNotPointedTo 23 = .ok (.getfield 12, 3) := by decide +kernel
theorem dX4_freeWhatIsNotPointedTo_26 : decode cX4_freeWhatIsNotPointedTo 26 = .ok (.aload_n 0, 1) := by decide +kernel
theorem dX4_freeWhatIsNotPointedTo_27 : decode cX4_freeWhatIsNotPointedTo 27 = .ok (.getfield 19, 3) := by decide +kernel
theorem dX4_freeWhatIsNotPointedTo_30 : decode cX4_freeWhatIsNotPointedTo 30 = .ok (.iload_n 1, 1) := by decide +kernel
theorem dX4_freeWhatIsNotPointedTo_31 : decode cX4_freeWhatIsNotPointedTo 31 = .ok (.iload_n 2, 1) := by decide +kernel
theorem dX4_freeWhatIsNotPointedTo_32 : decode cX4_freeWhatIsNotPointedTo 32 = .ok (.invokevirtual 209, 3) := by decide +kernel
theorem dX4_freeWhatIsNotPointedTo_35 : decode cX4_freeWhatIsNotPointedTo 35 = .ok (.invokevirtual 291, 3) := by decide +kernel
theorem dX4_freeWhatIsNotPointedTo_38 : decode cX4_freeWhatIsNotPointedTo 38 = .ok (.iinc 2 1, 3) := by decide +kernel
theorem dX4_freeWhatIsNotPointedTo_41 : decode cX4_freeWhatIsNotPointedTo 41 = .ok (.goto (-24), 3) := by decide +kernel
theorem dX4_freeWhatIsNotPointedTo_44 : decode cX4_freeWhatIsNotPointedTo 44 = .ok (.iinc 1 1, 3) := by decide +kernel
theorem dX4_freeWhatIsNotPointedTo_47 : decode cX4_freeWhatIsNotPointedTo 47 = .ok (.goto (-38), 3) := by decide +kernel
theorem dX4_freeWhatIsNotPointedTo_50 : decode cX4_freeWhatIsNotPointedTo 50 = .ok (.return_, 1) := by decide +kernel
def b_X4_freeWhatIsNotPointedTo_17 (x1 : Int32) (rec : Int32 → Mem → Int32 × Mem) (v2 : Int32) (N : Mem) : Int32 × Mem :=
  if 2 ≤ v2 then (v2, N)
  else zlet (f_X0_use (f_X3_placeOf x1 v2 N) N) (fun N2 =>
  rec (v2 + 1) N2)
def l_X4_freeWhatIsNotPointedTo_17 (x1 : Int32) : Nat → Int32 → Mem → Int32 × Mem
  | 0, v2, N => (v2, N)
  | n + 1, v2, N => b_X4_freeWhatIsNotPointedTo_17 x1 (l_X4_freeWhatIsNotPointedTo_17 x1 n) v2 N
set_option maxRecDepth 100000 in
set_option maxHeartbeats 4000000 in
theorem kl_X4_freeWhatIsNotPointedTo_17 (q : ZQ) (x1 : Int32) {K : Int32 × Mem → ZR} (hx : ∀ e : Int32 × Mem, Zg (zgX q) mX4_freeWhatIsNotPointedTo 0 0 0 0 (K e) 44 [some (.inr 0), some (.inl x1), some (.inl e.1)] [] e.2) :
    ∀ (n : Nat) (v2 : Int32) (N : Mem), ((2 : Int32).toInt - (v2 : Int32).toInt).toNat < n → Zg (zgX q) mX4_freeWhatIsNotPointedTo 0 0 0 0 (zlet (l_X4_freeWhatIsNotPointedTo_17 x1 n v2 N) K) 17 [some (.inr 0), some (.inl x1), some (.inl v2)] [] N := by
  intro n
  induction n with
  | zero => intro v2 N hm; exact absurd hm (Nat.not_lt_zero _)
  | succ n ih =>
    intro v2 N hm
    show Zg _ _ _ _ _ _ (zlet (b_X4_freeWhatIsNotPointedTo_17 x1 (l_X4_freeWhatIsNotPointedTo_17 x1 n) v2 N) K) _ _ _ _
    unfold b_X4_freeWhatIsNotPointedTo_17
    refine zg_iload_n (x := v2) dX4_freeWhatIsNotPointedTo_17 rfl ?_
    refine zg_iconst (v := 2) dX4_freeWhatIsNotPointedTo_18 rfl ?_
    refine zg_icmpz (tgt := 44) dX4_freeWhatIsNotPointedTo_19 rfl rfl (fun c19 => ?_) (fun c19 => ?_)
    · refine zg_st (pc' := 44) (L' := [some (.inr 0), some (.inl x1), some (.inl v2)]) (S' := []) (M' := N) rfl rfl rfl rfl ?_
      refine zg_drop (L' := [some (.inr 0), some (.inl x1), some (.inl v2)]) ⟨rfl, rfl, rfl, trivial⟩ ?_
      exact hx (v2, N)
    · refine zg_st (pc' := 22) (L' := [some (.inr 0), some (.inl x1), some (.inl v2)]) (S' := []) (M' := N) rfl rfl rfl rfl ?_
      refine zg_aload_n (x := 0) dX4_freeWhatIsNotPointedTo_22 rfl ?_
      refine zg_getf (v := .inr 1) dX4_freeWhatIsNotPointedTo_23 zf_X4_12 rfl rfl rfl ?_
      refine zg_aload_n (x := 0) dX4_freeWhatIsNotPointedTo_26 rfl ?_
      refine zg_getf (v := .inr 2) dX4_freeWhatIsNotPointedTo_27 zf_X4_19 rfl rfl rfl ?_
      refine zg_iload_n (x := x1) dX4_freeWhatIsNotPointedTo_30 rfl ?_
      refine zg_iload_n (x := v2) dX4_freeWhatIsNotPointedTo_31 rfl ?_
      refine zg_cV1 (As := [.inl x1, .inl v2]) (S := [.inr 1]) (v := (f_X3_placeOf x1 v2 N)) dX4_freeWhatIsNotPointedTo_32 zk_X4_209 (k_X3_placeOf q x1 v2 N) rfl rfl ⟨by decide, by decide⟩ ⟨by decide, by decide⟩ rfl (Nat.le_of_ble_eq_true rfl) ?_
      refine zg_st (pc' := 35) (L' := [some (.inr 0), some (.inl x1), some (.inl v2)]) (S' := [.inl (f_X3_placeOf x1 v2 N), .inr 1]) (M' := N) rfl rfl rfl rfl ?_
      refine zg_cVV (As := [.inl (f_X3_placeOf x1 v2 N)]) (S := []) dX4_freeWhatIsNotPointedTo_35 zk_X4_291 (k_X0_use q (f_X3_placeOf x1 v2 N) N) rfl rfl ⟨by decide, by decide⟩ ⟨by decide, by decide⟩ rfl (Nat.le_of_ble_eq_true rfl) (fun N2 e_N2 => ?_)
      try dsimp only
      refine zg_st (pc' := 38) (L' := [some (.inr 0), some (.inl x1), some (.inl v2)]) (S' := []) (M' := N2) rfl rfl rfl rfl ?_
      refine zg_iinc (v := (v2 + 1)) dX4_freeWhatIsNotPointedTo_38 rfl (by decide) rfl ?_
      refine zg_st (pc' := 41) (L' := [some (.inr 0), some (.inl x1), some (.inl (v2 + 1))]) (S' := []) (M' := N2) rfl rfl rfl rfl ?_
      refine zg_goto (tgt := 17) dX4_freeWhatIsNotPointedTo_41 rfl ?_
      refine zg_st (pc' := 17) (L' := [some (.inr 0), some (.inl x1), some (.inl (v2 + 1))]) (S' := []) (M' := N2) rfl rfl rfl rfl ?_
      refine zg_drop (L' := [some (.inr 0), some (.inl x1), some (.inl (v2 + 1))]) ⟨rfl, rfl, rfl, trivial⟩ ?_
      exact ih (v2 + 1) N2 (z_up c19 hm)
def b_X4_freeWhatIsNotPointedTo_9 (rec : Int32 → Mem → Int32 × Mem) (v1 : Int32) (N : Mem) : Int32 × Mem :=
  if 53 ≤ v1 then (v1, N)
  else zlet (l_X4_freeWhatIsNotPointedTo_17 v1 3 0 N) (fun s3 =>
  rec (v1 + 1) s3.2)
def l_X4_freeWhatIsNotPointedTo_9 : Nat → Int32 → Mem → Int32 × Mem
  | 0, v1, N => (v1, N)
  | n + 1, v1, N => b_X4_freeWhatIsNotPointedTo_9 (l_X4_freeWhatIsNotPointedTo_9 n) v1 N
set_option maxRecDepth 100000 in
set_option maxHeartbeats 4000000 in
theorem kl_X4_freeWhatIsNotPointedTo_9 (q : ZQ) {K : Int32 × Mem → ZR} (hx : ∀ e : Int32 × Mem, Zg (zgX q) mX4_freeWhatIsNotPointedTo 0 0 0 0 (K e) 50 [some (.inr 0), some (.inl e.1), none] [] e.2) :
    ∀ (n : Nat) (v1 : Int32) (N : Mem), ((53 : Int32).toInt - (v1 : Int32).toInt).toNat < n → Zg (zgX q) mX4_freeWhatIsNotPointedTo 0 0 0 0 (zlet (l_X4_freeWhatIsNotPointedTo_9 n v1 N) K) 9 [some (.inr 0), some (.inl v1), none] [] N := by
  intro n
  induction n with
  | zero => intro v1 N hm; exact absurd hm (Nat.not_lt_zero _)
  | succ n ih =>
    intro v1 N hm
    show Zg _ _ _ _ _ _ (zlet (b_X4_freeWhatIsNotPointedTo_9 (l_X4_freeWhatIsNotPointedTo_9 n) v1 N) K) _ _ _ _
    unfold b_X4_freeWhatIsNotPointedTo_9
    refine zg_iload_n (x := v1) dX4_freeWhatIsNotPointedTo_9 rfl ?_
    refine zg_bipush (v := 53) dX4_freeWhatIsNotPointedTo_10 rfl ?_
    refine zg_icmpz (tgt := 50) dX4_freeWhatIsNotPointedTo_12 rfl rfl (fun c12 => ?_) (fun c12 => ?_)
    · refine zg_st (pc' := 50) (L' := [some (.inr 0), some (.inl v1), none]) (S' := []) (M' := N) rfl rfl rfl rfl ?_
      refine zg_drop (L' := [some (.inr 0), some (.inl v1), none]) ⟨rfl, rfl, trivial⟩ ?_
      exact hx (v1, N)
    · refine zg_st (pc' := 15) (L' := [some (.inr 0), some (.inl v1), none]) (S' := []) (M' := N) rfl rfl rfl rfl ?_
      refine zg_iconst (v := 0) dX4_freeWhatIsNotPointedTo_15 rfl ?_
      refine zg_istore_n dX4_freeWhatIsNotPointedTo_16 (by decide) ?_
      refine zg_st (pc' := 17) (L' := [some (.inr 0), some (.inl v1), some (.inl 0)]) (S' := []) (M' := N) rfl rfl rfl rfl ?_
      refine zg_asc ?_
      refine zg_drop (L' := [some (.inr 0), some (.inl v1), some (.inl 0)]) ⟨rfl, rfl, rfl, trivial⟩ ?_
      refine kl_X4_freeWhatIsNotPointedTo_17 q v1  (fun s3 => ?_) 3 0 N (by decide)
      try dsimp only [Sum.elim_inr]
      refine zg_st (pc' := 44) (L' := [some (.inr 0), some (.inl v1), some (.inl s3.1)]) (S' := []) (M' := s3.2) rfl rfl rfl rfl ?_
      refine zg_iinc (v := (v1 + 1)) dX4_freeWhatIsNotPointedTo_44 rfl (by decide) rfl ?_
      refine zg_st (pc' := 47) (L' := [some (.inr 0), some (.inl (v1 + 1)), some (.inl s3.1)]) (S' := []) (M' := s3.2) rfl rfl rfl rfl ?_
      refine zg_goto (tgt := 9) dX4_freeWhatIsNotPointedTo_47 rfl ?_
      refine zg_st (pc' := 9) (L' := [some (.inr 0), some (.inl (v1 + 1)), some (.inl s3.1)]) (S' := []) (M' := s3.2) rfl rfl rfl rfl ?_
      refine zg_drop (L' := [some (.inr 0), some (.inl (v1 + 1)), none]) ⟨rfl, rfl, trivial⟩ ?_
      exact ih (v1 + 1) s3.2 (z_up c12 hm)
def f_X4_freeWhatIsNotPointedTo (M : Mem) : Mem :=
  zlet (f_X0_freeAll M) (fun N1 =>
  zlet (l_X4_freeWhatIsNotPointedTo_9 54 0 N1) (fun s4 =>
    s4.2))
set_option maxRecDepth 100000 in
set_option maxHeartbeats 4000000 in
theorem k_X4_freeWhatIsNotPointedTo (q : ZQ) (M : Mem) : Zc (zgX q) mX4_freeWhatIsNotPointedTo 0 0 [.inr 0] M (wV (f_X4_freeWhatIsNotPointedTo M)) := by
  refine Zc.of (by decide) zi_X4_freeWhatIsNotPointedTo.1 (Nat.le_of_ble_eq_true rfl) rfl ?_
  show Zg _ _ _ _ _ _ (zlet (f_X4_freeWhatIsNotPointedTo M) wV) _ _ _ _
  unfold f_X4_freeWhatIsNotPointedTo
  refine zg_aload_n (x := 0) dX4_freeWhatIsNotPointedTo_0 rfl ?_
  refine zg_getf (v := .inr 1) dX4_freeWhatIsNotPointedTo_1 zf_X4_12 rfl rfl rfl ?_
  refine zg_cVV (As := []) (S := []) dX4_freeWhatIsNotPointedTo_4 zk_X4_288 (k_X0_freeAll q M) rfl rfl ⟨by decide, by decide⟩ ⟨by decide, by decide⟩ rfl (Nat.le_of_ble_eq_true rfl) (fun N1 e_N1 => ?_)
  try dsimp only
  refine zg_st (pc' := 7) (L' := [some (.inr 0), none, none]) (S' := []) (M' := N1) rfl rfl rfl rfl ?_
  refine zg_iconst (v := 0) dX4_freeWhatIsNotPointedTo_7 rfl ?_
  refine zg_istore_n dX4_freeWhatIsNotPointedTo_8 (by decide) ?_
  refine zg_st (pc' := 9) (L' := [some (.inr 0), some (.inl 0), none]) (S' := []) (M' := N1) rfl rfl rfl rfl ?_
  refine zg_asc ?_
  refine zg_drop (L' := [some (.inr 0), some (.inl 0), none]) ⟨rfl, rfl, trivial⟩ ?_
  refine kl_X4_freeWhatIsNotPointedTo_9 q  (fun s4 => ?_) 54 0 N1 (by decide)
  try dsimp only [Sum.elim_inr]
  refine zg_st (pc' := 50) (L' := [some (.inr 0), some (.inl s4.1), none]) (S' := []) (M' := s4.2) rfl rfl rfl rfl ?_
  exact zg_vret dX4_freeWhatIsNotPointedTo_50 rfl ⟨by decide, by decide⟩ rfl
theorem dX4_copyToSide_0 : decode cX4_copyToSide 0 = .ok (.iconst 0, 1) := by decide +kernel
theorem dX4_copyToSide_1 : decode cX4_copyToSide 1 = .ok (.istore 4, 2) := by decide +kernel
theorem dX4_copyToSide_3 : decode cX4_copyToSide 3 = .ok (.iconst 0, 1) := by decide +kernel
theorem dX4_copyToSide_4 : decode cX4_copyToSide 4 = .ok (.istore 5, 2) := by decide +kernel
theorem dX4_copyToSide_6 : decode cX4_copyToSide 6 = .ok (.iload 5, 2) := by decide +kernel
theorem dX4_copyToSide_8 : decode cX4_copyToSide 8 = .ok (.iconst 2, 1) := by decide +kernel
theorem dX4_copyToSide_9 : decode cX4_copyToSide 9 = .ok (.if_icmp .ge 62, 3) := by decide +kernel
theorem dX4_copyToSide_12 : decode cX4_copyToSide 12 = .ok (.aload_n 0, 1) := by decide +kernel
theorem dX4_copyToSide_13 : decode cX4_copyToSide 13 = .ok (.getfield 19, 3) := by decide +kernel
theorem dX4_copyToSide_16 : decode cX4_copyToSide 16 = .ok (.iload_n 1, 1) := by decide +kernel
theorem dX4_copyToSide_17 : decode cX4_copyToSide 17 = .ok (.iload 5, 2) := by decide +kernel
theorem dX4_copyToSide_19 : decode cX4_copyToSide 19 = .ok (.invokevirtual 209, 3) := by decide +kernel
theorem dX4_copyToSide_22 : decode cX4_copyToSide 22 = .ok (.istore 6, 2) := by decide +kernel
theorem dX4_copyToSide_24 : decode cX4_copyToSide 24 = .ok (.iload 6, 2) := by decide +kernel
theorem dX4_copyToSide_26 : decode cX4_copyToSide 26 = .ok (.iconst (-1), 1) := by decide +kernel
theorem dX4_copyToSide_27 : decode cX4_copyToSide 27 = .ok (.if_icmp .eq 38, 3) := by decide +kernel
theorem dX4_copyToSide_30 : decode cX4_copyToSide 30 = .ok (.iload 6, 2) := by decide +kernel
theorem dX4_copyToSide_32 : decode cX4_copyToSide 32 = .ok (.invokestatic 228, 3) := by decide +kernel
theorem dX4_copyToSide_35 : decode cX4_copyToSide 35 = .ok (.iload_n 2, 1) := by decide +kernel
theorem dX4_copyToSide_36 : decode cX4_copyToSide 36 = .ok (.if_icmp .ne 29, 3) := by decide +kernel
theorem dX4_copyToSide_39 : decode cX4_copyToSide 39 = .ok (.aload_n 0, 1) := by decide +kernel
theorem dX4_copyToSide_40 : decode cX4_copyToSide 40 = .ok (.getfield 12, 3) := by decide +kernel
theorem dX4_copyToSide_43 : decode cX4_copyToSide 43 = .ok (.iload 6, 2) := by decide +kernel
theorem dX4_copyToSide_45 : decode cX4_copyToSide 45 = .ok (.iload_n 3, 1) := by decide +kernel
theorem dX4_copyToSide_46 : decode cX4_copyToSide 46 = .ok (.aload_n 0, 1) := by decide +kernel
theorem dX4_copyToSide_47 : decode cX4_copyToSide 47 = .ok (.iload_n 1, 1) := by decide +kernel
theorem dX4_copyToSide_48 : decode cX4_copyToSide 48 = .ok (.invokevirtual 194, 3) := by decide +kernel
theorem dX4_copyToSide_51 : decode cX4_copyToSide 51 = .ok (.ifCond .ne 7, 3) := by decide +kernel
theorem dX4_copyToSide_54 : decode cX4_copyToSide 54 = .ok (.iconst 1, 1) := by decide +kernel
theorem dX4_copyToSide_55 : decode cX4_copyToSide 55 = .ok (.goto 4, 3) := by decide +kernel
theorem dX4_copyToSide_58 : decode cX4_copyToSide 58 = .ok (.iconst 0, 1) := by decide +kernel
theorem dX4_copyToSide_59 : decode cX4_copyToSide 59 = .ok (.invokevirtual 178, 3) := by decide +kernel
theorem dX4_copyToSide_62 : decode cX4_copyToSide 62 = .ok (.iinc 4 1, 3) := by decide +kernel
theorem dX4_copyToSide_65 : decode cX4_copyToSide 65 = .ok (.iinc 5 1, 3) := by decide +kernel
theorem dX4_copyToSide_68 : decode cX4_copyToSide 68 = .ok (.goto (-62), 3) := by decide +kernel
theorem dX4_copyToSide_71 : decode cX4_copyToSide 71 = .ok (.iload 4, 2) := by decide +kernel
theorem dX4_copyToSide_73 : decode cX4_copyToSide 73 = .ok (.ireturn, 1) := by decide +kernel
def b_X4_copyToSide_6 (x1 : Int32) (x2 : Int32) (x3 : Int32) (rec : Int32 → Int32 → Mem → Int32 × Int32 × Mem) (v4 : Int32) (v5 : Int32) (N : Mem) : Int32 × Int32 × Mem :=
  if 2 ≤ v5 then (v4, v5, N)
  else if (f_X3_placeOf x1 v5 N) = (-1) then rec v4 (v5 + 1) N
  else if ¬ (f_X4_mirrorOf (f_X3_placeOf x1 v5 N)) = x2 then rec v4 (v5 + 1) N
  else if (f_X4_canFetch x1 N) then zlet (f_X0_mark (f_X3_placeOf x1 v5 N) x3 false N) (fun N1 =>
    rec (v4 + 1) (v5 + 1) N1)
  else zlet (f_X0_mark (f_X3_placeOf x1 v5 N) x3 true N) (fun N2 =>
  rec (v4 + 1) (v5 + 1) N2)
def l_X4_copyToSide_6 (x1 : Int32) (x2 : Int32) (x3 : Int32) : Nat → Int32 → Int32 → Mem → Int32 × Int32 × Mem
  | 0, v4, v5, N => (v4, v5, N)
  | n + 1, v4, v5, N => b_X4_copyToSide_6 x1 x2 x3 (l_X4_copyToSide_6 x1 x2 x3 n) v4 v5 N
set_option maxRecDepth 100000 in
set_option maxHeartbeats 4000000 in
theorem kl_X4_copyToSide_6 (q : ZQ) (x1 : Int32) (x2 : Int32) (x3 : Int32) {K : Int32 × Int32 × Mem → ZR} (hx : ∀ e : Int32 × Int32 × Mem, Zg (zgX q) mX4_copyToSide 0 0 0 0 (K e) 71 [some (.inr 0), some (.inl x1), some (.inl x2), some (.inl x3), some (.inl e.1), some (.inl e.2.1), none] [] e.2.2) :
    ∀ (n : Nat) (v4 : Int32) (v5 : Int32) (N : Mem), ((2 : Int32).toInt - (v5 : Int32).toInt).toNat < n → Zg (zgX q) mX4_copyToSide 0 0 0 0 (zlet (l_X4_copyToSide_6 x1 x2 x3 n v4 v5 N) K) 6 [some (.inr 0), some (.inl x1), some (.inl x2), some (.inl x3), some (.inl v4), some (.inl v5), none] [] N := by
  intro n
  induction n with
  | zero => intro v4 v5 N hm; exact absurd hm (Nat.not_lt_zero _)
  | succ n ih =>
    intro v4 v5 N hm
    show Zg _ _ _ _ _ _ (zlet (b_X4_copyToSide_6 x1 x2 x3 (l_X4_copyToSide_6 x1 x2 x3 n) v4 v5 N) K) _ _ _ _
    unfold b_X4_copyToSide_6
    refine zg_iload (x := v5) dX4_copyToSide_6 rfl ?_
    refine zg_iconst (v := 2) dX4_copyToSide_8 rfl ?_
    refine zg_icmpz (tgt := 71) dX4_copyToSide_9 rfl rfl (fun c9 => ?_) (fun c9 => ?_)
    · refine zg_st (pc' := 71) (L' := [some (.inr 0), some (.inl x1), some (.inl x2), some (.inl x3), some (.inl v4), some (.inl v5), none]) (S' := []) (M' := N) rfl rfl rfl rfl ?_
      refine zg_drop (L' := [some (.inr 0), some (.inl x1), some (.inl x2), some (.inl x3), some (.inl v4), some (.inl v5), none]) ⟨rfl, rfl, rfl, rfl, rfl, rfl, trivial⟩ ?_
      exact hx (v4, v5, N)
    · refine zg_st (pc' := 12) (L' := [some (.inr 0), some (.inl x1), some (.inl x2), some (.inl x3), some (.inl v4), some (.inl v5), none]) (S' := []) (M' := N) rfl rfl rfl rfl ?_
      refine zg_aload_n (x := 0) dX4_copyToSide_12 rfl ?_
      refine zg_getf (v := .inr 2) dX4_copyToSide_13 zf_X4_19 rfl rfl rfl ?_
      refine zg_iload_n (x := x1) dX4_copyToSide_16 rfl ?_
      refine zg_iload (x := v5) dX4_copyToSide_17 rfl ?_
      refine zg_cV1 (As := [.inl x1, .inl v5]) (S := []) (v := (f_X3_placeOf x1 v5 N)) dX4_copyToSide_19 zk_X4_209 (k_X3_placeOf q x1 v5 N) rfl rfl ⟨by decide, by decide⟩ ⟨by decide, by decide⟩ rfl (Nat.le_of_ble_eq_true rfl) ?_
      refine zg_st (pc' := 22) (L' := [some (.inr 0), some (.inl x1), some (.inl x2), some (.inl x3), some (.inl v4), some (.inl v5), none]) (S' := [.inl (f_X3_placeOf x1 v5 N)]) (M' := N) rfl rfl rfl rfl ?_
      refine zg_istore dX4_copyToSide_22 (by decide) ?_
      refine zg_st (pc' := 24) (L' := [some (.inr 0), some (.inl x1), some (.inl x2), some (.inl x3), some (.inl v4), some (.inl v5), some (.inl (f_X3_placeOf x1 v5 N))]) (S' := []) (M' := N) rfl rfl rfl rfl ?_
      refine zg_iload (x := (f_X3_placeOf x1 v5 N)) dX4_copyToSide_24 rfl ?_
      refine zg_iconst (v := (-1)) dX4_copyToSide_26 rfl ?_
      refine zg_icmpz (tgt := 65) dX4_copyToSide_27 rfl rfl (fun c27 => ?_) (fun c27 => ?_)
      · refine zg_st (pc' := 65) (L' := [some (.inr 0), some (.inl x1), some (.inl x2), some (.inl x3), some (.inl v4), some (.inl v5), some (.inl (f_X3_placeOf x1 v5 N))]) (S' := []) (M' := N) rfl rfl rfl rfl ?_
        refine zg_iinc (v := (v5 + 1)) dX4_copyToSide_65 rfl (by decide) rfl ?_
        refine zg_st (pc' := 68) (L' := [some (.inr 0), some (.inl x1), some (.inl x2), some (.inl x3), some (.inl v4), some (.inl (v5 + 1)), some (.inl (f_X3_placeOf x1 v5 N))]) (S' := []) (M' := N) rfl rfl rfl rfl ?_
        refine zg_goto (tgt := 6) dX4_copyToSide_68 rfl ?_
        refine zg_st (pc' := 6) (L' := [some (.inr 0), some (.inl x1), some (.inl x2), some (.inl x3), some (.inl v4), some (.inl (v5 + 1)), some (.inl (f_X3_placeOf x1 v5 N))]) (S' := []) (M' := N) rfl rfl rfl rfl ?_
        refine zg_drop (L' := [some (.inr 0), some (.inl x1), some (.inl x2), some (.inl x3), some (.inl v4), some (.inl (v5 + 1)), none]) ⟨rfl, rfl, rfl, rfl, rfl, rfl, trivial⟩ ?_
        exact ih v4 (v5 + 1) N (z_up c9 hm)
      · refine zg_st (pc' := 30) (L' := [some (.inr 0), some (.inl x1), some (.inl x2), some (.inl x3), some (.inl v4), some (.inl v5), some (.inl (f_X3_placeOf x1 v5 N))]) (S' := []) (M' := N) rfl rfl rfl rfl ?_
        refine zg_iload (x := (f_X3_placeOf x1 v5 N)) dX4_copyToSide_30 rfl ?_
        refine zg_cS1 (As := [.inl (f_X3_placeOf x1 v5 N)]) (S := []) (v := (f_X4_mirrorOf (f_X3_placeOf x1 v5 N))) dX4_copyToSide_32 zk_X4_228 (k_X4_mirrorOf q (f_X3_placeOf x1 v5 N) N) rfl ⟨by decide, by decide⟩ ⟨by decide, by decide⟩ rfl (Nat.le_of_ble_eq_true rfl) ?_
        refine zg_st (pc' := 35) (L' := [some (.inr 0), some (.inl x1), some (.inl x2), some (.inl x3), some (.inl v4), some (.inl v5), some (.inl (f_X3_placeOf x1 v5 N))]) (S' := [.inl (f_X4_mirrorOf (f_X3_placeOf x1 v5 N))]) (M' := N) rfl rfl rfl rfl ?_
        refine zg_iload_n (x := x2) dX4_copyToSide_35 rfl ?_
        refine zg_icmpz (tgt := 65) dX4_copyToSide_36 rfl rfl (fun c36 => ?_) (fun c36 => ?_)
        · refine zg_st (pc' := 65) (L' := [some (.inr 0), some (.inl x1), some (.inl x2), some (.inl x3), some (.inl v4), some (.inl v5), some (.inl (f_X3_placeOf x1 v5 N))]) (S' := []) (M' := N) rfl rfl rfl rfl ?_
          refine zg_iinc (v := (v5 + 1)) dX4_copyToSide_65 rfl (by decide) rfl ?_
          refine zg_st (pc' := 68) (L' := [some (.inr 0), some (.inl x1), some (.inl x2), some (.inl x3), some (.inl v4), some (.inl (v5 + 1)), some (.inl (f_X3_placeOf x1 v5 N))]) (S' := []) (M' := N) rfl rfl rfl rfl ?_
          refine zg_goto (tgt := 6) dX4_copyToSide_68 rfl ?_
          refine zg_st (pc' := 6) (L' := [some (.inr 0), some (.inl x1), some (.inl x2), some (.inl x3), some (.inl v4), some (.inl (v5 + 1)), some (.inl (f_X3_placeOf x1 v5 N))]) (S' := []) (M' := N) rfl rfl rfl rfl ?_
          refine zg_drop (L' := [some (.inr 0), some (.inl x1), some (.inl x2), some (.inl x3), some (.inl v4), some (.inl (v5 + 1)), none]) ⟨rfl, rfl, rfl, rfl, rfl, rfl, trivial⟩ ?_
          exact ih v4 (v5 + 1) N (z_up c9 hm)
        · refine zg_st (pc' := 39) (L' := [some (.inr 0), some (.inl x1), some (.inl x2), some (.inl x3), some (.inl v4), some (.inl v5), some (.inl (f_X3_placeOf x1 v5 N))]) (S' := []) (M' := N) rfl rfl rfl rfl ?_
          refine zg_aload_n (x := 0) dX4_copyToSide_39 rfl ?_
          refine zg_getf (v := .inr 1) dX4_copyToSide_40 zf_X4_12 rfl rfl rfl ?_
          refine zg_iload (x := (f_X3_placeOf x1 v5 N)) dX4_copyToSide_43 rfl ?_
          refine zg_iload_n (x := x3) dX4_copyToSide_45 rfl ?_
          refine zg_aload_n (x := 0) dX4_copyToSide_46 rfl ?_
          refine zg_iload_n (x := x1) dX4_copyToSide_47 rfl ?_
          refine zg_cV1 (As := [.inl x1]) (S := [.inl x3, .inl (f_X3_placeOf x1 v5 N), .inr 1]) (v := bI ((f_X4_canFetch x1 N))) dX4_copyToSide_48 zk_X4_194 (k_X4_canFetch q x1 N) rfl rfl ⟨by decide, by decide⟩ ⟨by decide, by decide⟩ rfl (Nat.le_of_ble_eq_true rfl) ?_
          refine zg_st (pc' := 51) (L' := [some (.inr 0), some (.inl x1), some (.inl x2), some (.inl x3), some (.inl v4), some (.inl v5), some (.inl (f_X3_placeOf x1 v5 N))]) (S' := [.inl (bI ((f_X4_canFetch x1 N))), .inl x3, .inl (f_X3_placeOf x1 v5 N), .inr 1]) (M' := N) rfl rfl rfl rfl ?_
          refine zg_ifbn (tgt := 58) dX4_copyToSide_51 rfl (fun c51 => ?_) (fun c51 => ?_)
          · refine zg_st (pc' := 58) (L' := [some (.inr 0), some (.inl x1), some (.inl x2), some (.inl x3), some (.inl v4), some (.inl v5), some (.inl (f_X3_placeOf x1 v5 N))]) (S' := [.inl x3, .inl (f_X3_placeOf x1 v5 N), .inr 1]) (M' := N) rfl rfl rfl rfl ?_
            refine zg_iconst (v := 0) dX4_copyToSide_58 rfl ?_
            refine zg_cVV (As := [.inl (f_X3_placeOf x1 v5 N), .inl x3, .inl 0]) (S := []) dX4_copyToSide_59 zk_X4_178 (k_X0_mark q (f_X3_placeOf x1 v5 N) x3 false N) rfl rfl ⟨by decide, by decide⟩ ⟨by decide, by decide⟩ rfl (Nat.le_of_ble_eq_true rfl) (fun N1 e_N1 => ?_)
            try dsimp only
            refine zg_st (pc' := 62) (L' := [some (.inr 0), some (.inl x1), some (.inl x2), some (.inl x3), some (.inl v4), some (.inl v5), some (.inl (f_X3_placeOf x1 v5 N))]) (S' := []) (M' := N1) rfl rfl rfl rfl ?_
            refine zg_iinc (v := (v4 + 1)) dX4_copyToSide_62 rfl (by decide) rfl ?_
            refine zg_st (pc' := 65) (L' := [some (.inr 0), some (.inl x1), some (.inl x2), some (.inl x3), some (.inl (v4 + 1)), some (.inl v5), some (.inl (f_X3_placeOf x1 v5 N))]) (S' := []) (M' := N1) rfl rfl rfl rfl ?_
            refine zg_iinc (v := (v5 + 1)) dX4_copyToSide_65 rfl (by decide) rfl ?_
            refine zg_st (pc' := 68) (L' := [some (.inr 0), some (.inl x1), some (.inl x2), some (.inl x3), some (.inl (v4 + 1)), some (.inl (v5 + 1)), some (.inl (f_X3_placeOf x1 v5 N))]) (S' := []) (M' := N1) rfl rfl rfl rfl ?_
            refine zg_goto (tgt := 6) dX4_copyToSide_68 rfl ?_
            refine zg_st (pc' := 6) (L' := [some (.inr 0), some (.inl x1), some (.inl x2), some (.inl x3), some (.inl (v4 + 1)), some (.inl (v5 + 1)), some (.inl (f_X3_placeOf x1 v5 N))]) (S' := []) (M' := N1) rfl rfl rfl rfl ?_
            refine zg_drop (L' := [some (.inr 0), some (.inl x1), some (.inl x2), some (.inl x3), some (.inl (v4 + 1)), some (.inl (v5 + 1)), none]) ⟨rfl, rfl, rfl, rfl, rfl, rfl, trivial⟩ ?_
            exact ih (v4 + 1) (v5 + 1) N1 (z_up c9 hm)
          · refine zg_st (pc' := 54) (L' := [some (.inr 0), some (.inl x1), some (.inl x2), some (.inl x3), some (.inl v4), some (.inl v5), some (.inl (f_X3_placeOf x1 v5 N))]) (S' := [.inl x3, .inl (f_X3_placeOf x1 v5 N), .inr 1]) (M' := N) rfl rfl rfl rfl ?_
            refine zg_iconst (v := 1) dX4_copyToSide_54 rfl ?_
            refine zg_goto (tgt := 59) dX4_copyToSide_55 rfl ?_
            refine zg_st (pc' := 59) (L' := [some (.inr 0), some (.inl x1), some (.inl x2), some (.inl x3), some (.inl v4), some (.inl v5), some (.inl (f_X3_placeOf x1 v5 N))]) (S' := [.inl 1, .inl x3, .inl (f_X3_placeOf x1 v5 N), .inr 1]) (M' := N) rfl rfl rfl rfl ?_
            refine zg_cVV (As := [.inl (f_X3_placeOf x1 v5 N), .inl x3, .inl 1]) (S := []) dX4_copyToSide_59 zk_X4_178 (k_X0_mark q (f_X3_placeOf x1 v5 N) x3 true N) rfl rfl ⟨by decide, by decide⟩ ⟨by decide, by decide⟩ rfl (Nat.le_of_ble_eq_true rfl) (fun N2 e_N2 => ?_)
            try dsimp only
            refine zg_st (pc' := 62) (L' := [some (.inr 0), some (.inl x1), some (.inl x2), some (.inl x3), some (.inl v4), some (.inl v5), some (.inl (f_X3_placeOf x1 v5 N))]) (S' := []) (M' := N2) rfl rfl rfl rfl ?_
            refine zg_iinc (v := (v4 + 1)) dX4_copyToSide_62 rfl (by decide) rfl ?_
            refine zg_st (pc' := 65) (L' := [some (.inr 0), some (.inl x1), some (.inl x2), some (.inl x3), some (.inl (v4 + 1)), some (.inl v5), some (.inl (f_X3_placeOf x1 v5 N))]) (S' := []) (M' := N2) rfl rfl rfl rfl ?_
            refine zg_iinc (v := (v5 + 1)) dX4_copyToSide_65 rfl (by decide) rfl ?_
            refine zg_st (pc' := 68) (L' := [some (.inr 0), some (.inl x1), some (.inl x2), some (.inl x3), some (.inl (v4 + 1)), some (.inl (v5 + 1)), some (.inl (f_X3_placeOf x1 v5 N))]) (S' := []) (M' := N2) rfl rfl rfl rfl ?_
            refine zg_goto (tgt := 6) dX4_copyToSide_68 rfl ?_
            refine zg_st (pc' := 6) (L' := [some (.inr 0), some (.inl x1), some (.inl x2), some (.inl x3), some (.inl (v4 + 1)), some (.inl (v5 + 1)), some (.inl (f_X3_placeOf x1 v5 N))]) (S' := []) (M' := N2) rfl rfl rfl rfl ?_
            refine zg_drop (L' := [some (.inr 0), some (.inl x1), some (.inl x2), some (.inl x3), some (.inl (v4 + 1)), some (.inl (v5 + 1)), none]) ⟨rfl, rfl, rfl, rfl, rfl, rfl, trivial⟩ ?_
            exact ih (v4 + 1) (v5 + 1) N2 (z_up c9 hm)
def f_X4_copyToSide (p1 : Int32) (p2 : Int32) (p3 : Int32) (M : Mem) : (Int32 × Mem) :=
  zlet (l_X4_copyToSide_6 p1 p2 p3 3 0 0 M) (fun s3 =>
  (s3.1, s3.2.2))
set_option maxRecDepth 100000 in
set_option maxHeartbeats 4000000 in
theorem k_X4_copyToSide (q : ZQ) (p1 : Int32) (p2 : Int32) (p3 : Int32) (M : Mem) : Zc (zgX q) mX4_copyToSide 0 0 [.inr 0, .inl p1, .inl p2, .inl p3] M (wIM (f_X4_copyToSide p1 p2 p3 M)) := by
  refine Zc.of (by decide) zi_X4_copyToSide.1 (Nat.le_of_ble_eq_true rfl) rfl ?_
  show Zg _ _ _ _ _ _ (zlet (f_X4_copyToSide p1 p2 p3 M) wIM) _ _ _ _
  unfold f_X4_copyToSide
  refine zg_iconst (v := 0) dX4_copyToSide_0 rfl ?_
  refine zg_istore dX4_copyToSide_1 (by decide) ?_
  refine zg_st (pc' := 3) (L' := [some (.inr 0), some (.inl p1), some (.inl p2), some (.inl p3), some (.inl 0), none, none]) (S' := []) (M' := M) rfl rfl rfl rfl ?_
  refine zg_iconst (v := 0) dX4_copyToSide_3 rfl ?_
  refine zg_istore dX4_copyToSide_4 (by decide) ?_
  refine zg_st (pc' := 6) (L' := [some (.inr 0), some (.inl p1), some (.inl p2), some (.inl p3), some (.inl 0), some (.inl 0), none]) (S' := []) (M' := M) rfl rfl rfl rfl ?_
  refine zg_asc ?_
  refine zg_drop (L' := [some (.inr 0), some (.inl p1), some (.inl p2), some (.inl p3), some (.inl 0), some (.inl 0), none]) ⟨rfl, rfl, rfl, rfl, rfl, rfl, trivial⟩ ?_
  refine kl_X4_copyToSide_6 q p1 p2 p3  (fun s3 => ?_) 3 0 0 M (by decide)
  try dsimp only [Sum.elim_inr]
  refine zg_st (pc' := 71) (L' := [some (.inr 0), some (.inl p1), some (.inl p2), some (.inl p3), some (.inl s3.1), some (.inl s3.2.1), none]) (S' := []) (M' := s3.2.2) rfl rfl rfl rfl ?_
  refine zg_iload (x := s3.1) dX4_copyToSide_71 rfl ?_
  exact zg_iret dX4_copyToSide_73 rfl rfl ⟨by decide, by decide⟩ rfl
theorem dX4_resilverFile_0 : decode cX4_resilverFile 0 = .ok (.aload_n 0, 1) := by decide +kernel
theorem dX4_resilverFile_1 : decode cX4_resilverFile 1 = .ok (.getfield 12, 3) := by decide +kernel
theorem dX4_resilverFile_4 : decode cX4_resilverFile 4 = .ok (.iload_n 2, 1) := by decide +kernel
theorem dX4_resilverFile_5 : decode cX4_resilverFile 5 = .ok (.iload_n 3, 1) := by decide +kernel
theorem dX4_resilverFile_6 : decode cX4_resilverFile 6 = .ok (.invokevirtual 294, 3) := by decide +kernel
theorem dX4_resilverFile_9 : decode cX4_resilverFile 9 = .ok (.istore 4, 2) := by decide +kernel
theorem dX4_resilverFile_11 : decode cX4_resilverFile 11 = .ok (.aload_n 0, 1) := by decide +kernel
theorem dX4_resilverFile_12 : decode cX4_resilverFile 12 = .ok (.iload_n 1, 1) := by decide +kernel
theorem dX4_resilverFile_13 : decode cX4_resilverFile 13 = .ok (.invokestatic 93, 3) := by decide +kernel
theorem dX4_resilverFile_16 : decode cX4_resilverFile 16 = .ok (.iload_n 2, 1) := by decide +kernel
theorem dX4_resilverFile_17 : decode cX4_resilverFile 17 = .ok (.iload_n 3, 1) := by decide +kernel
theorem dX4_resilverFile_18 : decode cX4_resilverFile 18 = .ok (.invokevirtual 297, 3) := by decide +kernel
theorem dX4_resilverFile_21 : decode cX4_resilverFile 21 = .ok (.istore 5, 2) := by decide +kernel
theorem dX4_resilverFile_23 : decode cX4_resilverFile 23 = .ok (.iconst 0, 1) := by decide +kernel
theorem dX4_resilverFile_24 : decode cX4_resilverFile 24 = .ok (.istore 6, 2) := by decide +kernel
theorem dX4_resilverFile_26 : decode cX4_resilverFile 26 = .ok (.iload 6, 2) := by decide +kernel
theorem dX4_resilverFile_28 : decode cX4_resilverFile 28 = .ok (.bipush 12, 2) := by decide +kernel
theorem dX4_resilverFile_30 : decode cX4_resilverFile 30 = .ok (.if_icmp .ge 44, 3) := by decide +kernel
theorem dX4_resilverFile_33 : decode cX4_resilverFile 33 = .ok (.iload_n 1, 1) := by decide +kernel
theorem dX4_resilverFile_34 : decode cX4_resilverFile 34 = .ok (.iload 6, 2) := by decide +kernel
theorem dX4_resilverFile_36 : decode cX4_resilverFile 36 = .ok (.invokestatic 66, 3) := by decide +kernel
theorem dX4_resilverFile_39 : decode cX4_resilverFile 39 = .ok (.istore 7, 2) := by decide +kernel
theorem dX4_resilverFile_41 : decode cX4_resilverFile 41 = .ok (.aload_n 0, 1) := by decide +kernel
theorem dX4_resilverFile_42 : decode cX4_resilverFile 42 = .ok (.getfield 19, 3) := by decide +kernel
theorem dX4_resilverFile_45 : decode cX4_resilverFile 45 = .ok (.iload 7, 2) := by decide +kernel
theorem dX4_resilverFile_47 : decode cX4_resilverFile 47 = .ok (.invokevirtual 217, 3) := by decide +kernel
theorem dX4_resilverFile_50 : decode cX4_resilverFile 50 = .ok (.iload 4, 2) := by decide +kernel
theorem dX4_resilverFile_52 : decode cX4_resilverFile 52 = .ok (.if_icmp .le 16, 3) := by decide +kernel
theorem dX4_resilverFile_55 : decode cX4_resilverFile 55 = .ok (.iload 5, 2) := by decide +kernel
theorem dX4_resilverFile_57 : decode cX4_resilverFile 57 = .ok (.aload_n 0, 1) := by decide +kernel
theorem dX4_resilverFile_58 : decode cX4_resilverFile 58 = .ok (.iload 7, 2) := by decide +kernel
theorem dX4_resilverFile_60 : decode cX4_resilverFile 60 = .ok (.iload_n 2, 1) := by decide +kernel
theorem dX4_resilverFile_61 : decode cX4_resilverFile 61 = .ok (.iload_n 3, 1) := by decide +kernel
theorem dX4_resilverFile_62 : decode cX4_resilverFile 62 = .ok (.invokevirtual 297, 3) := by decide +kernel
theorem dX4_resilverFile_65 : decode cX4_resilverFile 65 = .ok (.iadd, 1) := by decide +kernel
theorem dX4_resilverFile_66 : decode cX4_resilverFile 66 = .ok (.istore 5, 2) := by decide +kernel
theorem dX4_resilverFile_68 : decode cX4_resilverFile 68 = .ok (.iinc 6 1, 3) := by decide +kernel
theorem dX4_resilverFile_71 : decode cX4_resilverFile 71 = .ok (.goto (-45), 3) := by decide +kernel
theorem dX4_resilverFile_74 : decode cX4_resilverFile 74 = .ok (.iload 5, 2) := by decide +kernel
theorem dX4_resilverFile_76 : decode cX4_resilverFile 76 = .ok (.ireturn, 1) := by decide +kernel
def b_X4_resilverFile_26 (x1 : Int32) (x2 : Int32) (x3 : Int32) (x4 : Int32) (rec : Int32 → Int32 → Mem → Int32 × Int32 × Mem) (v5 : Int32) (v6 : Int32) (N : Mem) : Int32 × Int32 × Mem :=
  if 12 ≤ v6 then (v5, v6, N)
  else if (f_X3_birthOf (f_X4_blockPointer x1 v6) N) ≤ x4 then rec v5 (v6 + 1) N
  else zlet (f_X4_copyToSide (f_X4_blockPointer x1 v6) x2 x3 N) (fun q2 =>
  rec (v5 + q2.1) (v6 + 1) q2.2)
def l_X4_resilverFile_26 (x1 : Int32) (x2 : Int32) (x3 : Int32) (x4 : Int32) : Nat → Int32 → Int32 → Mem → Int32 × Int32 × Mem
  | 0, v5, v6, N => (v5, v6, N)
  | n + 1, v5, v6, N => b_X4_resilverFile_26 x1 x2 x3 x4 (l_X4_resilverFile_26 x1 x2 x3 x4 n) v5 v6 N
set_option maxRecDepth 100000 in
set_option maxHeartbeats 4000000 in
theorem kl_X4_resilverFile_26 (q : ZQ) (x1 : Int32) (x2 : Int32) (x3 : Int32) (x4 : Int32) {K : Int32 × Int32 × Mem → ZR} (hx : ∀ e : Int32 × Int32 × Mem, Zg (zgX q) mX4_resilverFile 0 0 0 0 (K e) 74 [some (.inr 0), some (.inl x1), some (.inl x2), some (.inl x3), some (.inl x4), some (.inl e.1), some (.inl e.2.1), none] [] e.2.2) :
    ∀ (n : Nat) (v5 : Int32) (v6 : Int32) (N : Mem), ((12 : Int32).toInt - (v6 : Int32).toInt).toNat < n → Zg (zgX q) mX4_resilverFile 0 0 0 0 (zlet (l_X4_resilverFile_26 x1 x2 x3 x4 n v5 v6 N) K) 26 [some (.inr 0), some (.inl x1), some (.inl x2), some (.inl x3), some (.inl x4), some (.inl v5), some (.inl v6), none] [] N := by
  intro n
  induction n with
  | zero => intro v5 v6 N hm; exact absurd hm (Nat.not_lt_zero _)
  | succ n ih =>
    intro v5 v6 N hm
    show Zg _ _ _ _ _ _ (zlet (b_X4_resilverFile_26 x1 x2 x3 x4 (l_X4_resilverFile_26 x1 x2 x3 x4 n) v5 v6 N) K) _ _ _ _
    unfold b_X4_resilverFile_26
    refine zg_iload (x := v6) dX4_resilverFile_26 rfl ?_
    refine zg_bipush (v := 12) dX4_resilverFile_28 rfl ?_
    refine zg_icmpz (tgt := 74) dX4_resilverFile_30 rfl rfl (fun c30 => ?_) (fun c30 => ?_)
    · refine zg_st (pc' := 74) (L' := [some (.inr 0), some (.inl x1), some (.inl x2), some (.inl x3), some (.inl x4), some (.inl v5), some (.inl v6), none]) (S' := []) (M' := N) rfl rfl rfl rfl ?_
      refine zg_drop (L' := [some (.inr 0), some (.inl x1), some (.inl x2), some (.inl x3), some (.inl x4), some (.inl v5), some (.inl v6), none]) ⟨rfl, rfl, rfl, rfl, rfl, rfl, rfl, trivial⟩ ?_
      exact hx (v5, v6, N)
    · refine zg_st (pc' := 33) (L' := [some (.inr 0), some (.inl x1), some (.inl x2), some (.inl x3), some (.inl x4), some (.inl v5), some (.inl v6), none]) (S' := []) (M' := N) rfl rfl rfl rfl ?_
      refine zg_iload_n (x := x1) dX4_resilverFile_33 rfl ?_
      refine zg_iload (x := v6) dX4_resilverFile_34 rfl ?_
      refine zg_cS1 (As := [.inl x1, .inl v6]) (S := []) (v := (f_X4_blockPointer x1 v6)) dX4_resilverFile_36 zk_X4_66 (k_X4_blockPointer q x1 v6 N) rfl ⟨by decide, by decide⟩ ⟨by decide, by decide⟩ rfl (Nat.le_of_ble_eq_true rfl) ?_
      refine zg_st (pc' := 39) (L' := [some (.inr 0), some (.inl x1), some (.inl x2), some (.inl x3), some (.inl x4), some (.inl v5), some (.inl v6), none]) (S' := [.inl (f_X4_blockPointer x1 v6)]) (M' := N) rfl rfl rfl rfl ?_
      refine zg_istore dX4_resilverFile_39 (by decide) ?_
      refine zg_st (pc' := 41) (L' := [some (.inr 0), some (.inl x1), some (.inl x2), some (.inl x3), some (.inl x4), some (.inl v5), some (.inl v6), some (.inl (f_X4_blockPointer x1 v6))]) (S' := []) (M' := N) rfl rfl rfl rfl ?_
      refine zg_aload_n (x := 0) dX4_resilverFile_41 rfl ?_
      refine zg_getf (v := .inr 2) dX4_resilverFile_42 zf_X4_19 rfl rfl rfl ?_
      refine zg_iload (x := (f_X4_blockPointer x1 v6)) dX4_resilverFile_45 rfl ?_
      refine zg_cV1 (As := [.inl (f_X4_blockPointer x1 v6)]) (S := []) (v := (f_X3_birthOf (f_X4_blockPointer x1 v6) N)) dX4_resilverFile_47 zk_X4_217 (k_X3_birthOf q (f_X4_blockPointer x1 v6) N) rfl rfl ⟨by decide, by decide⟩ ⟨by decide, by decide⟩ rfl (Nat.le_of_ble_eq_true rfl) ?_
      refine zg_st (pc' := 50) (L' := [some (.inr 0), some (.inl x1), some (.inl x2), some (.inl x3), some (.inl x4), some (.inl v5), some (.inl v6), some (.inl (f_X4_blockPointer x1 v6))]) (S' := [.inl (f_X3_birthOf (f_X4_blockPointer x1 v6) N)]) (M' := N) rfl rfl rfl rfl ?_
      refine zg_iload (x := x4) dX4_resilverFile_50 rfl ?_
      refine zg_icmpz (tgt := 68) dX4_resilverFile_52 rfl rfl (fun c52 => ?_) (fun c52 => ?_)
      · refine zg_st (pc' := 68) (L' := [some (.inr 0), some (.inl x1), some (.inl x2), some (.inl x3), some (.inl x4), some (.inl v5), some (.inl v6), some (.inl (f_X4_blockPointer x1 v6))]) (S' := []) (M' := N) rfl rfl rfl rfl ?_
        refine zg_iinc (v := (v6 + 1)) dX4_resilverFile_68 rfl (by decide) rfl ?_
        refine zg_st (pc' := 71) (L' := [some (.inr 0), some (.inl x1), some (.inl x2), some (.inl x3), some (.inl x4), some (.inl v5), some (.inl (v6 + 1)), some (.inl (f_X4_blockPointer x1 v6))]) (S' := []) (M' := N) rfl rfl rfl rfl ?_
        refine zg_goto (tgt := 26) dX4_resilverFile_71 rfl ?_
        refine zg_st (pc' := 26) (L' := [some (.inr 0), some (.inl x1), some (.inl x2), some (.inl x3), some (.inl x4), some (.inl v5), some (.inl (v6 + 1)), some (.inl (f_X4_blockPointer x1 v6))]) (S' := []) (M' := N) rfl rfl rfl rfl ?_
        refine zg_drop (L' := [some (.inr 0), some (.inl x1), some (.inl x2), some (.inl x3), some (.inl x4), some (.inl v5), some (.inl (v6 + 1)), none]) ⟨rfl, rfl, rfl, rfl, rfl, rfl, rfl, trivial⟩ ?_
        exact ih v5 (v6 + 1) N (z_up c30 hm)
      · refine zg_st (pc' := 55) (L' := [some (.inr 0), some (.inl x1), some (.inl x2), some (.inl x3), some (.inl x4), some (.inl v5), some (.inl v6), some (.inl (f_X4_blockPointer x1 v6))]) (S' := []) (M' := N) rfl rfl rfl rfl ?_
        refine zg_iload (x := v5) dX4_resilverFile_55 rfl ?_
        refine zg_aload_n (x := 0) dX4_resilverFile_57 rfl ?_
        refine zg_iload (x := (f_X4_blockPointer x1 v6)) dX4_resilverFile_58 rfl ?_
        refine zg_iload_n (x := x2) dX4_resilverFile_60 rfl ?_
        refine zg_iload_n (x := x3) dX4_resilverFile_61 rfl ?_
        refine zg_cVIM (As := [.inl (f_X4_blockPointer x1 v6), .inl x2, .inl x3]) (S := [.inl v5]) dX4_resilverFile_62 zk_X4_297 (k_X4_copyToSide q (f_X4_blockPointer x1 v6) x2 x3 N) rfl rfl ⟨by decide, by decide⟩ ⟨by decide, by decide⟩ rfl (Nat.le_of_ble_eq_true rfl) (fun q2 e_q2 => ?_)
        try dsimp only
        refine zg_st (pc' := 65) (L' := [some (.inr 0), some (.inl x1), some (.inl x2), some (.inl x3), some (.inl x4), some (.inl v5), some (.inl v6), some (.inl (f_X4_blockPointer x1 v6))]) (S' := [.inl q2.1, .inl v5]) (M' := q2.2) rfl rfl rfl rfl ?_
        refine zg_iadd dX4_resilverFile_65 ?_
        refine zg_istore dX4_resilverFile_66 (by decide) ?_
        refine zg_st (pc' := 68) (L' := [some (.inr 0), some (.inl x1), some (.inl x2), some (.inl x3), some (.inl x4), some (.inl (v5 + q2.1)), some (.inl v6), some (.inl (f_X4_blockPointer x1 v6))]) (S' := []) (M' := q2.2) rfl rfl rfl rfl ?_
        refine zg_iinc (v := (v6 + 1)) dX4_resilverFile_68 rfl (by decide) rfl ?_
        refine zg_st (pc' := 71) (L' := [some (.inr 0), some (.inl x1), some (.inl x2), some (.inl x3), some (.inl x4), some (.inl (v5 + q2.1)), some (.inl (v6 + 1)), some (.inl (f_X4_blockPointer x1 v6))]) (S' := []) (M' := q2.2) rfl rfl rfl rfl ?_
        refine zg_goto (tgt := 26) dX4_resilverFile_71 rfl ?_
        refine zg_st (pc' := 26) (L' := [some (.inr 0), some (.inl x1), some (.inl x2), some (.inl x3), some (.inl x4), some (.inl (v5 + q2.1)), some (.inl (v6 + 1)), some (.inl (f_X4_blockPointer x1 v6))]) (S' := []) (M' := q2.2) rfl rfl rfl rfl ?_
        refine zg_drop (L' := [some (.inr 0), some (.inl x1), some (.inl x2), some (.inl x3), some (.inl x4), some (.inl (v5 + q2.1)), some (.inl (v6 + 1)), none]) ⟨rfl, rfl, rfl, rfl, rfl, rfl, rfl, trivial⟩ ?_
        exact ih (v5 + q2.1) (v6 + 1) q2.2 (z_up c30 hm)
def f_X4_resilverFile (p1 : Int32) (p2 : Int32) (p3 : Int32) (M : Mem) : (Int32 × Mem) :=
  zlet (f_X4_copyToSide (f_X4_filePointer p1) p2 p3 M) (fun q1 =>
  zlet (l_X4_resilverFile_26 p1 p2 p3 (f_X0_outageOf p2 p3 M) 13 q1.1 0 q1.2) (fun s3 =>
    (s3.1, s3.2.2)))
set_option maxRecDepth 100000 in
set_option maxHeartbeats 4000000 in
theorem k_X4_resilverFile (q : ZQ) (p1 : Int32) (p2 : Int32) (p3 : Int32) (M : Mem) : Zc (zgX q) mX4_resilverFile 0 0 [.inr 0, .inl p1, .inl p2, .inl p3] M (wIM (f_X4_resilverFile p1 p2 p3 M)) := by
  refine Zc.of (by decide) zi_X4_resilverFile.1 (Nat.le_of_ble_eq_true rfl) rfl ?_
  show Zg _ _ _ _ _ _ (zlet (f_X4_resilverFile p1 p2 p3 M) wIM) _ _ _ _
  unfold f_X4_resilverFile
  refine zg_aload_n (x := 0) dX4_resilverFile_0 rfl ?_
  refine zg_getf (v := .inr 1) dX4_resilverFile_1 zf_X4_12 rfl rfl rfl ?_
  refine zg_iload_n (x := p2) dX4_resilverFile_4 rfl ?_
  refine zg_iload_n (x := p3) dX4_resilverFile_5 rfl ?_
  refine zg_cV1 (As := [.inl p2, .inl p3]) (S := []) (v := (f_X0_outageOf p2 p3 M)) dX4_resilverFile_6 zk_X4_294 (k_X0_outageOf q p2 p3 M) rfl rfl ⟨by decide, by decide⟩ ⟨by decide, by decide⟩ rfl (Nat.le_of_ble_eq_true rfl) ?_
  refine zg_st (pc' := 9) (L' := [some (.inr 0), some (.inl p1), some (.inl p2), some (.inl p3), none, none, none, none]) (S' := [.inl (f_X0_outageOf p2 p3 M)]) (M' := M) rfl rfl rfl rfl ?_
  refine zg_istore dX4_resilverFile_9 (by decide) ?_
  refine zg_st (pc' := 11) (L' := [some (.inr 0), some (.inl p1), some (.inl p2), some (.inl p3), some (.inl (f_X0_outageOf p2 p3 M)), none, none, none]) (S' := []) (M' := M) rfl rfl rfl rfl ?_
  refine zg_aload_n (x := 0) dX4_resilverFile_11 rfl ?_
  refine zg_iload_n (x := p1) dX4_resilverFile_12 rfl ?_
  refine zg_cS1 (As := [.inl p1]) (S := [.inr 0]) (v := (f_X4_filePointer p1)) dX4_resilverFile_13 zk_X4_93 (k_X4_filePointer q p1 M) rfl ⟨by decide, by decide⟩ ⟨by decide, by decide⟩ rfl (Nat.le_of_ble_eq_true rfl) ?_
  refine zg_st (pc' := 16) (L' := [some (.inr 0), some (.inl p1), some (.inl p2), some (.inl p3), some (.inl (f_X0_outageOf p2 p3 M)), none, none, none]) (S' := [.inl (f_X4_filePointer p1), .inr 0]) (M' := M) rfl rfl rfl rfl ?_
  refine zg_iload_n (x := p2) dX4_resilverFile_16 rfl ?_
  refine zg_iload_n (x := p3) dX4_resilverFile_17 rfl ?_
  refine zg_cVIM (As := [.inl (f_X4_filePointer p1), .inl p2, .inl p3]) (S := []) dX4_resilverFile_18 zk_X4_297 (k_X4_copyToSide q (f_X4_filePointer p1) p2 p3 M) rfl rfl ⟨by decide, by decide⟩ ⟨by decide, by decide⟩ rfl (Nat.le_of_ble_eq_true rfl) (fun q1 e_q1 => ?_)
  try dsimp only
  refine zg_st (pc' := 21) (L' := [some (.inr 0), some (.inl p1), some (.inl p2), some (.inl p3), some (.inl (f_X0_outageOf p2 p3 M)), none, none, none]) (S' := [.inl q1.1]) (M' := q1.2) rfl rfl rfl rfl ?_
  refine zg_istore dX4_resilverFile_21 (by decide) ?_
  refine zg_st (pc' := 23) (L' := [some (.inr 0), some (.inl p1), some (.inl p2), some (.inl p3), some (.inl (f_X0_outageOf p2 p3 M)), some (.inl q1.1), none, none]) (S' := []) (M' := q1.2) rfl rfl rfl rfl ?_
  refine zg_iconst (v := 0) dX4_resilverFile_23 rfl ?_
  refine zg_istore dX4_resilverFile_24 (by decide) ?_
  refine zg_st (pc' := 26) (L' := [some (.inr 0), some (.inl p1), some (.inl p2), some (.inl p3), some (.inl (f_X0_outageOf p2 p3 M)), some (.inl q1.1), some (.inl 0), none]) (S' := []) (M' := q1.2) rfl rfl rfl rfl ?_
  refine zg_asc ?_
  refine zg_drop (L' := [some (.inr 0), some (.inl p1), some (.inl p2), some (.inl p3), some (.inl (f_X0_outageOf p2 p3 M)), some (.inl q1.1), some (.inl 0), none]) ⟨rfl, rfl, rfl, rfl, rfl, rfl, rfl, trivial⟩ ?_
  refine kl_X4_resilverFile_26 q p1 p2 p3 (f_X0_outageOf p2 p3 M)  (fun s3 => ?_) 13 q1.1 0 q1.2 (by decide)
  try dsimp only [Sum.elim_inr]
  refine zg_st (pc' := 74) (L' := [some (.inr 0), some (.inl p1), some (.inl p2), some (.inl p3), some (.inl (f_X0_outageOf p2 p3 M)), some (.inl s3.1), some (.inl s3.2.1), none]) (S' := []) (M' := s3.2.2) rfl rfl rfl rfl ?_
  refine zg_iload (x := s3.1) dX4_resilverFile_74 rfl ?_
  exact zg_iret dX4_resilverFile_76 rfl rfl ⟨by decide, by decide⟩ rfl
theorem dX4_resilver_0 : decode cX4_resilver 0 = .ok (.aload_n 0, 1) := by decide +kernel
theorem dX4_resilver_1 : decode cX4_resilver 1 = .ok (.getfield 12, 3) := by decide +kernel
theorem dX4_resilver_4 : decode cX4_resilver 4 = .ok (.iload_n 1, 1) := by decide +kernel
theorem dX4_resilver_5 : decode cX4_resilver 5 = .ok (.iload_n 2, 1) := by decide +kernel
theorem dX4_resilver_6 : decode cX4_resilver 6 = .ok (.invokevirtual 294, 3) := by decide +kernel
theorem dX4_resilver_9 : decode cX4_resilver 9 = .ok (.istore_n 3, 1) := by decide +kernel
theorem dX4_resilver_10 : decode cX4_resilver 10 = .ok (.aload_n 0, 1) := by decide +kernel
theorem dX4_resilver_11 : decode cX4_resilver 11 = .ok (.getfield 19, 3) := by decide +kernel
theorem dX4_resilver_14 : decode cX4_resilver 14 = .ok (.bipush 52, 2) := by decide +kernel
theorem dX4_resilver_16 : decode cX4_resilver 16 = .ok (.invokevirtual 217, 3) := by decide +kernel
theorem dX4_resilver_19 : decode cX4_resilver 19 = .ok (.iload_n 3, 1) := by decide +kernel
theorem dX4_resilver_20 : decode cX4_resilver 20 = .ok (.if_icmp .gt 5, 3) := by decide +kernel
theorem dX4_resilver_23 : decode cX4_resilver 23 = .ok (.iconst 0, 1) := by decide +kernel
theorem dX4_resilver_24 : decode cX4_resilver 24 = .ok (.ireturn, 1) := by decide +kernel
theorem dX4_resilver_25 : decode cX4_resilver 25 = .ok (.aload_n 0, 1) := by decide +kernel
theorem dX4_resilver_26 : decode cX4_resilver 26 = .ok (.bipush 52, 2) := by decide +kernel
theorem dX4_resilver_28 : decode cX4_resilver 28 = .ok (.iload_n 1, 1) := by decide +kernel
theorem dX4_resilver_29 : decode cX4_resilver 29 = .ok (.iload_n 2, 1) := by decide +kernel
theorem dX4_resilver_30 : decode cX4_resilver 30 = .ok (.invokevirtual 297, 3) := by decide +kernel
theorem dX4_resilver_33 : decode cX4_resilver 33 = .ok (.istore 4, 2) := by decide +kernel
theorem dX4_resilver_35 : decode cX4_resilver 35 = .ok (.iconst 0, 1) := by decide +kernel
theorem dX4_resilver_36 : decode cX4_resilver 36 = .ok (.istore 5, 2) := by decide +kernel
theorem dX4_resilver_38 : decode cX4_resilver 38 = .ok (.iload 5, 2) := by decide +kernel
theorem dX4_resilver_40 : decode cX4_resilver 40 = .ok (.iconst 4, 1) := by decide +kernel
theorem dX4_resilver_41 : decode cX4_resilver 41 = .ok (.if_icmp .ge 38, 3) := by decide +kernel
theorem dX4_resilver_44 : decode cX4_resilver 44 = .ok (.aload_n 0, 1) := by decide +kernel
theorem dX4_resilver_45 : decode cX4_resilver 45 = .ok (.getfield 19, 3) := by decide +kernel
theorem dX4_resilver_48 : decode cX4_resilver 48 = .ok (.iload 5, 2) := by decide +kernel
theorem dX4_resilver_50 : decode cX4_resilver 50 = .ok (.invokestatic 93, 3) := by decide +kernel
theorem dX4_resilver_53 : decode cX4_resilver 53 = .ok (.invokevirtual 217, 3) := by decide +kernel
theorem dX4_resilver_56 : decode cX4_resilver 56 = .ok (.iload_n 3, 1) := by decide +kernel
theorem dX4_resilver_57 : decode cX4_resilver 57 = .ok (.if_icmp .le 16, 3) := by decide +kernel
theorem dX4_resilver_60 : decode cX4_resilver 60 = .ok (.iload 4, 2) := by decide +kernel
theorem dX4_resilver_62 : decode cX4_resilver 62 = .ok (.aload_n 0, 1) := by decide +kernel
theorem dX4_resilver_63 : decode cX4_resilver 63 = .ok (.iload 5, 2) := by decide +kernel
theorem dX4_resilver_65 : decode cX4_resilver 65 = .ok (.iload_n 1, 1) := by decide +kernel
theorem dX4_resilver_66 : decode cX4_resilver 66 = .ok (.iload_n 2, 1) := by decide +kernel
theorem dX4_resilver_67 : decode cX4_resilver 67 = .ok (.invokevirtual 301, 3) := by decide +kernel
theorem dX4_resilver_70 : decode cX4_resilver 70 = .ok (.iadd, 1) := by decide +kernel
theorem dX4_resilver_71 : decode cX4_resilver 71 = .ok (.istore 4, 2) := by decide +kernel
theorem dX4_resilver_73 : decode cX4_resilver 73 = .ok (.iinc 5 1, 3) := by decide +kernel
theorem dX4_resilver_76 : decode cX4_resilver 76 = .ok (.goto (-38), 3) := by decide +kernel
theorem dX4_resilver_79 : decode cX4_resilver 79 = .ok (.iload 4, 2) := by decide +kernel
theorem dX4_resilver_81 : decode cX4_resilver 81 = .ok (.ireturn, 1) := by decide +kernel
def b_X4_resilver_38 (x1 : Int32) (x2 : Int32) (x3 : Int32) (rec : Int32 → Int32 → Mem → Int32 × Int32 × Mem) (v4 : Int32) (v5 : Int32) (N : Mem) : Int32 × Int32 × Mem :=
  if 4 ≤ v5 then (v4, v5, N)
  else if (f_X3_birthOf (f_X4_filePointer v5) N) ≤ x3 then rec v4 (v5 + 1) N
  else zlet (f_X4_resilverFile v5 x1 x2 N) (fun q2 =>
  rec (v4 + q2.1) (v5 + 1) q2.2)
def l_X4_resilver_38 (x1 : Int32) (x2 : Int32) (x3 : Int32) : Nat → Int32 → Int32 → Mem → Int32 × Int32 × Mem
  | 0, v4, v5, N => (v4, v5, N)
  | n + 1, v4, v5, N => b_X4_resilver_38 x1 x2 x3 (l_X4_resilver_38 x1 x2 x3 n) v4 v5 N
set_option maxRecDepth 100000 in
set_option maxHeartbeats 4000000 in
theorem kl_X4_resilver_38 (q : ZQ) (x1 : Int32) (x2 : Int32) (x3 : Int32) {K : Int32 × Int32 × Mem → ZR} (hx : ∀ e : Int32 × Int32 × Mem, Zg (zgX q) mX4_resilver 0 0 0 0 (K e) 79 [some (.inr 0), some (.inl x1), some (.inl x2), some (.inl x3), some (.inl e.1), some (.inl e.2.1)] [] e.2.2) :
    ∀ (n : Nat) (v4 : Int32) (v5 : Int32) (N : Mem), ((4 : Int32).toInt - (v5 : Int32).toInt).toNat < n → Zg (zgX q) mX4_resilver 0 0 0 0 (zlet (l_X4_resilver_38 x1 x2 x3 n v4 v5 N) K) 38 [some (.inr 0), some (.inl x1), some (.inl x2), some (.inl x3), some (.inl v4), some (.inl v5)] [] N := by
  intro n
  induction n with
  | zero => intro v4 v5 N hm; exact absurd hm (Nat.not_lt_zero _)
  | succ n ih =>
    intro v4 v5 N hm
    show Zg _ _ _ _ _ _ (zlet (b_X4_resilver_38 x1 x2 x3 (l_X4_resilver_38 x1 x2 x3 n) v4 v5 N) K) _ _ _ _
    unfold b_X4_resilver_38
    refine zg_iload (x := v5) dX4_resilver_38 rfl ?_
    refine zg_iconst (v := 4) dX4_resilver_40 rfl ?_
    refine zg_icmpz (tgt := 79) dX4_resilver_41 rfl rfl (fun c41 => ?_) (fun c41 => ?_)
    · refine zg_st (pc' := 79) (L' := [some (.inr 0), some (.inl x1), some (.inl x2), some (.inl x3), some (.inl v4), some (.inl v5)]) (S' := []) (M' := N) rfl rfl rfl rfl ?_
      refine zg_drop (L' := [some (.inr 0), some (.inl x1), some (.inl x2), some (.inl x3), some (.inl v4), some (.inl v5)]) ⟨rfl, rfl, rfl, rfl, rfl, rfl, trivial⟩ ?_
      exact hx (v4, v5, N)
    · refine zg_st (pc' := 44) (L' := [some (.inr 0), some (.inl x1), some (.inl x2), some (.inl x3), some (.inl v4), some (.inl v5)]) (S' := []) (M' := N) rfl rfl rfl rfl ?_
      refine zg_aload_n (x := 0) dX4_resilver_44 rfl ?_
      refine zg_getf (v := .inr 2) dX4_resilver_45 zf_X4_19 rfl rfl rfl ?_
      refine zg_iload (x := v5) dX4_resilver_48 rfl ?_
      refine zg_cS1 (As := [.inl v5]) (S := [.inr 2]) (v := (f_X4_filePointer v5)) dX4_resilver_50 zk_X4_93 (k_X4_filePointer q v5 N) rfl ⟨by decide, by decide⟩ ⟨by decide, by decide⟩ rfl (Nat.le_of_ble_eq_true rfl) ?_
      refine zg_st (pc' := 53) (L' := [some (.inr 0), some (.inl x1), some (.inl x2), some (.inl x3), some (.inl v4), some (.inl v5)]) (S' := [.inl (f_X4_filePointer v5), .inr 2]) (M' := N) rfl rfl rfl rfl ?_
      refine zg_cV1 (As := [.inl (f_X4_filePointer v5)]) (S := []) (v := (f_X3_birthOf (f_X4_filePointer v5) N)) dX4_resilver_53 zk_X4_217 (k_X3_birthOf q (f_X4_filePointer v5) N) rfl rfl ⟨by decide, by decide⟩ ⟨by decide, by decide⟩ rfl (Nat.le_of_ble_eq_true rfl) ?_
      refine zg_st (pc' := 56) (L' := [some (.inr 0), some (.inl x1), some (.inl x2), some (.inl x3), some (.inl v4), some (.inl v5)]) (S' := [.inl (f_X3_birthOf (f_X4_filePointer v5) N)]) (M' := N) rfl rfl rfl rfl ?_
      refine zg_iload_n (x := x3) dX4_resilver_56 rfl ?_
      refine zg_icmpz (tgt := 73) dX4_resilver_57 rfl rfl (fun c57 => ?_) (fun c57 => ?_)
      · refine zg_st (pc' := 73) (L' := [some (.inr 0), some (.inl x1), some (.inl x2), some (.inl x3), some (.inl v4), some (.inl v5)]) (S' := []) (M' := N) rfl rfl rfl rfl ?_
        refine zg_iinc (v := (v5 + 1)) dX4_resilver_73 rfl (by decide) rfl ?_
        refine zg_st (pc' := 76) (L' := [some (.inr 0), some (.inl x1), some (.inl x2), some (.inl x3), some (.inl v4), some (.inl (v5 + 1))]) (S' := []) (M' := N) rfl rfl rfl rfl ?_
        refine zg_goto (tgt := 38) dX4_resilver_76 rfl ?_
        refine zg_st (pc' := 38) (L' := [some (.inr 0), some (.inl x1), some (.inl x2), some (.inl x3), some (.inl v4), some (.inl (v5 + 1))]) (S' := []) (M' := N) rfl rfl rfl rfl ?_
        refine zg_drop (L' := [some (.inr 0), some (.inl x1), some (.inl x2), some (.inl x3), some (.inl v4), some (.inl (v5 + 1))]) ⟨rfl, rfl, rfl, rfl, rfl, rfl, trivial⟩ ?_
        exact ih v4 (v5 + 1) N (z_up c41 hm)
      · refine zg_st (pc' := 60) (L' := [some (.inr 0), some (.inl x1), some (.inl x2), some (.inl x3), some (.inl v4), some (.inl v5)]) (S' := []) (M' := N) rfl rfl rfl rfl ?_
        refine zg_iload (x := v4) dX4_resilver_60 rfl ?_
        refine zg_aload_n (x := 0) dX4_resilver_62 rfl ?_
        refine zg_iload (x := v5) dX4_resilver_63 rfl ?_
        refine zg_iload_n (x := x1) dX4_resilver_65 rfl ?_
        refine zg_iload_n (x := x2) dX4_resilver_66 rfl ?_
        refine zg_cVIM (As := [.inl v5, .inl x1, .inl x2]) (S := [.inl v4]) dX4_resilver_67 zk_X4_301 (k_X4_resilverFile q v5 x1 x2 N) rfl rfl ⟨by decide, by decide⟩ ⟨by decide, by decide⟩ rfl (Nat.le_of_ble_eq_true rfl) (fun q2 e_q2 => ?_)
        try dsimp only
        refine zg_st (pc' := 70) (L' := [some (.inr 0), some (.inl x1), some (.inl x2), some (.inl x3), some (.inl v4), some (.inl v5)]) (S' := [.inl q2.1, .inl v4]) (M' := q2.2) rfl rfl rfl rfl ?_
        refine zg_iadd dX4_resilver_70 ?_
        refine zg_istore dX4_resilver_71 (by decide) ?_
        refine zg_st (pc' := 73) (L' := [some (.inr 0), some (.inl x1), some (.inl x2), some (.inl x3), some (.inl (v4 + q2.1)), some (.inl v5)]) (S' := []) (M' := q2.2) rfl rfl rfl rfl ?_
        refine zg_iinc (v := (v5 + 1)) dX4_resilver_73 rfl (by decide) rfl ?_
        refine zg_st (pc' := 76) (L' := [some (.inr 0), some (.inl x1), some (.inl x2), some (.inl x3), some (.inl (v4 + q2.1)), some (.inl (v5 + 1))]) (S' := []) (M' := q2.2) rfl rfl rfl rfl ?_
        refine zg_goto (tgt := 38) dX4_resilver_76 rfl ?_
        refine zg_st (pc' := 38) (L' := [some (.inr 0), some (.inl x1), some (.inl x2), some (.inl x3), some (.inl (v4 + q2.1)), some (.inl (v5 + 1))]) (S' := []) (M' := q2.2) rfl rfl rfl rfl ?_
        refine zg_drop (L' := [some (.inr 0), some (.inl x1), some (.inl x2), some (.inl x3), some (.inl (v4 + q2.1)), some (.inl (v5 + 1))]) ⟨rfl, rfl, rfl, rfl, rfl, rfl, trivial⟩ ?_
        exact ih (v4 + q2.1) (v5 + 1) q2.2 (z_up c41 hm)
def f_X4_resilver (p1 : Int32) (p2 : Int32) (M : Mem) : (Int32 × Mem) :=
  if (f_X0_outageOf p1 p2 M) < (f_X3_birthOf 52 M) then zlet (f_X4_copyToSide 52 p1 p2 M) (fun q1 =>
    zlet (l_X4_resilver_38 p1 p2 (f_X0_outageOf p1 p2 M) 5 q1.1 0 q1.2) (fun s3 =>
      (s3.1, s3.2.2)))
  else (0, M)
set_option maxRecDepth 100000 in
set_option maxHeartbeats 4000000 in
theorem k_X4_resilver (q : ZQ) (p1 : Int32) (p2 : Int32) (M : Mem) : Zc (zgX q) mX4_resilver 0 0 [.inr 0, .inl p1, .inl p2] M (wIM (f_X4_resilver p1 p2 M)) := by
  refine Zc.of (by decide) zi_X4_resilver.1 (Nat.le_of_ble_eq_true rfl) rfl ?_
  show Zg _ _ _ _ _ _ (zlet (f_X4_resilver p1 p2 M) wIM) _ _ _ _
  unfold f_X4_resilver
  refine zg_aload_n (x := 0) dX4_resilver_0 rfl ?_
  refine zg_getf (v := .inr 1) dX4_resilver_1 zf_X4_12 rfl rfl rfl ?_
  refine zg_iload_n (x := p1) dX4_resilver_4 rfl ?_
  refine zg_iload_n (x := p2) dX4_resilver_5 rfl ?_
  refine zg_cV1 (As := [.inl p1, .inl p2]) (S := []) (v := (f_X0_outageOf p1 p2 M)) dX4_resilver_6 zk_X4_294 (k_X0_outageOf q p1 p2 M) rfl rfl ⟨by decide, by decide⟩ ⟨by decide, by decide⟩ rfl (Nat.le_of_ble_eq_true rfl) ?_
  refine zg_st (pc' := 9) (L' := [some (.inr 0), some (.inl p1), some (.inl p2), none, none, none]) (S' := [.inl (f_X0_outageOf p1 p2 M)]) (M' := M) rfl rfl rfl rfl ?_
  refine zg_istore_n dX4_resilver_9 (by decide) ?_
  refine zg_st (pc' := 10) (L' := [some (.inr 0), some (.inl p1), some (.inl p2), some (.inl (f_X0_outageOf p1 p2 M)), none, none]) (S' := []) (M' := M) rfl rfl rfl rfl ?_
  refine zg_aload_n (x := 0) dX4_resilver_10 rfl ?_
  refine zg_getf (v := .inr 2) dX4_resilver_11 zf_X4_19 rfl rfl rfl ?_
  refine zg_bipush (v := 52) dX4_resilver_14 rfl ?_
  refine zg_cV1 (As := [.inl 52]) (S := []) (v := (f_X3_birthOf 52 M)) dX4_resilver_16 zk_X4_217 (k_X3_birthOf q 52 M) rfl rfl ⟨by decide, by decide⟩ ⟨by decide, by decide⟩ rfl (Nat.le_of_ble_eq_true rfl) ?_
  refine zg_st (pc' := 19) (L' := [some (.inr 0), some (.inl p1), some (.inl p2), some (.inl (f_X0_outageOf p1 p2 M)), none, none]) (S' := [.inl (f_X3_birthOf 52 M)]) (M' := M) rfl rfl rfl rfl ?_
  refine zg_iload_n (x := (f_X0_outageOf p1 p2 M)) dX4_resilver_19 rfl ?_
  refine zg_icmpz (tgt := 25) dX4_resilver_20 rfl rfl (fun c20 => ?_) (fun c20 => ?_)
  · refine zg_st (pc' := 25) (L' := [some (.inr 0), some (.inl p1), some (.inl p2), some (.inl (f_X0_outageOf p1 p2 M)), none, none]) (S' := []) (M' := M) rfl rfl rfl rfl ?_
    refine zg_aload_n (x := 0) dX4_resilver_25 rfl ?_
    refine zg_bipush (v := 52) dX4_resilver_26 rfl ?_
    refine zg_iload_n (x := p1) dX4_resilver_28 rfl ?_
    refine zg_iload_n (x := p2) dX4_resilver_29 rfl ?_
    refine zg_cVIM (As := [.inl 52, .inl p1, .inl p2]) (S := []) dX4_resilver_30 zk_X4_297 (k_X4_copyToSide q 52 p1 p2 M) rfl rfl ⟨by decide, by decide⟩ ⟨by decide, by decide⟩ rfl (Nat.le_of_ble_eq_true rfl) (fun q1 e_q1 => ?_)
    try dsimp only
    refine zg_st (pc' := 33) (L' := [some (.inr 0), some (.inl p1), some (.inl p2), some (.inl (f_X0_outageOf p1 p2 M)), none, none]) (S' := [.inl q1.1]) (M' := q1.2) rfl rfl rfl rfl ?_
    refine zg_istore dX4_resilver_33 (by decide) ?_
    refine zg_st (pc' := 35) (L' := [some (.inr 0), some (.inl p1), some (.inl p2), some (.inl (f_X0_outageOf p1 p2 M)), some (.inl q1.1), none]) (S' := []) (M' := q1.2) rfl rfl rfl rfl ?_
    refine zg_iconst (v := 0) dX4_resilver_35 rfl ?_
    refine zg_istore dX4_resilver_36 (by decide) ?_
    refine zg_st (pc' := 38) (L' := [some (.inr 0), some (.inl p1), some (.inl p2), some (.inl (f_X0_outageOf p1 p2 M)), some (.inl q1.1), some (.inl 0)]) (S' := []) (M' := q1.2) rfl rfl rfl rfl ?_
    refine zg_asc ?_
    refine zg_drop (L' := [some (.inr 0), some (.inl p1), some (.inl p2), some (.inl (f_X0_outageOf p1 p2 M)), some (.inl q1.1), some (.inl 0)]) ⟨rfl, rfl, rfl, rfl, rfl, rfl, trivial⟩ ?_
    refine kl_X4_resilver_38 q p1 p2 (f_X0_outageOf p1 p2 M)  (fun s3 => ?_) 5 q1.1 0 q1.2 (by decide)
    try dsimp only [Sum.elim_inr]
    refine zg_st (pc' := 79) (L' := [some (.inr 0), some (.inl p1), some (.inl p2), some (.inl (f_X0_outageOf p1 p2 M)), some (.inl s3.1), some (.inl s3.2.1)]) (S' := []) (M' := s3.2.2) rfl rfl rfl rfl ?_
    refine zg_iload (x := s3.1) dX4_resilver_79 rfl ?_
    exact zg_iret dX4_resilver_81 rfl rfl ⟨by decide, by decide⟩ rfl
  · refine zg_st (pc' := 23) (L' := [some (.inr 0), some (.inl p1), some (.inl p2), some (.inl (f_X0_outageOf p1 p2 M)), none, none]) (S' := []) (M' := M) rfl rfl rfl rfl ?_
    refine zg_iconst (v := 0) dX4_resilver_23 rfl ?_
    exact zg_iret dX4_resilver_24 rfl rfl ⟨by decide, by decide⟩ rfl
theorem dX4_healEveryCell_0 : decode cX4_healEveryCell 0 = .ok (.iconst 0, 1) := by decide +kernel
theorem dX4_healEveryCell_1 : decode cX4_healEveryCell 1 = .ok (.istore_n 2, 1) := by decide +kernel
theorem dX4_healEveryCell_2 : decode cX4_healEveryCell 2 = .ok (.iconst 0, 1) := by decide +kernel
theorem dX4_healEveryCell_3 : decode cX4_healEveryCell 3 = .ok (.istore_n 3, 1) := by decide +kernel
theorem dX4_healEveryCell_4 : decode cX4_healEveryCell 4 = .ok (.iload_n 3, 1) := by decide +kernel
theorem dX4_healEveryCell_5 : decode cX4_healEveryCell 5 = .ok (.iconst 2, 1) := by decide +kernel
theorem dX4_healEveryCell_6 : decode cX4_healEveryCell 6 = .ok (.if_icmp .ge 49, 3) := by decide +kernel
theorem dX4_healEveryCell_9 : decode cX4_healEveryCell 9 = .ok (.aload_n 0, 1) := by decide +kernel
theorem dX4_healEveryCell_10 : decode cX4_healEveryCell 10 = .ok (.getfield 19, 3) := by decide +kernel
theorem dX4_healEveryCell_13 : decode cX4_healEveryCell 13 = .ok (.iload_n 1, 1) := by decide +kernel
theorem dX4_healEveryCell_14 : decode cX4_healEveryCell 14 = .ok (.iload_n 3, 1) := by decide +kernel
theorem dX4_healEveryCell_15 : decode cX4_healEveryCell 15 = .ok (.invokevirtual 209, 3) := by decide +kernel
theorem dX4_healEveryCell_18 : decode cX4_healEveryCell 18 = .ok (.istore 4, 2) := by decide +kernel
theorem dX4_healEveryCell_20 : decode cX4_healEveryCell 20 = .ok (.iconst 0, 1) := by decide +kernel
theorem dX4_healEveryCell_21 : decode cX4_healEveryCell 21 = .ok (.istore 5, 2) := by decide +kernel
theorem dX4_healEveryCell_23 : decode cX4_healEveryCell 23 = .ok (.iload 5, 2) := by decide +kernel
theorem dX4_healEveryCell_25 : decode cX4_healEveryCell 25 = .ok (.iconst 2, 1) := by decide +kernel
theorem dX4_healEveryCell_26 : decode cX4_healEveryCell 26 = .ok (.if_icmp .ge 23, 3) := by decide +kernel
theorem dX4_healEveryCell_29 : decode cX4_healEveryCell 29 = .ok (.iload_n 2, 1) := by decide +kernel
theorem dX4_healEveryCell_30 : decode cX4_healEveryCell 30 = .ok (.aload_n 0, 1) := by decide +kernel
theorem dX4_healEveryCell_31 : decode cX4_healEveryCell 31 = .ok (.getfield 12, 3) := by decide +kernel
theorem dX4_healEveryCell_34 : decode cX4_healEveryCell 34 = .ok (.iload 4, 2) := by decide +kernel
theorem dX4_healEveryCell_36 : decode cX4_healEveryCell 36 = .ok (.iload 5, 2) := by decide +kernel
theorem dX4_healEveryCell_38 : decode cX4_healEveryCell 38 = .ok (.invokevirtual 237, 3) := by decide +kernel
theorem dX4_healEveryCell_41 : decode cX4_healEveryCell 41 = .ok (.iadd, 1) := by decide +kernel
theorem dX4_healEveryCell_42 : decode cX4_healEveryCell 42 = .ok (.istore_n 2, 1) := by decide +kernel
theorem dX4_healEveryCell_43 : decode cX4_healEveryCell 43 = .ok (.iinc 5 1, 3) := by decide +kernel
theorem dX4_healEveryCell_46 : decode cX4_healEveryCell 46 = .ok (.goto (-23), 3) := by decide +kernel
theorem dX4_healEveryCell_49 : decode cX4_healEveryCell 49 = .ok (.iinc 3 1, 3) := by decide +kernel
theorem dX4_healEveryCell_52 : decode cX4_healEveryCell 52 = .ok (.goto (-48), 3) := by decide +kernel
theorem dX4_healEveryCell_55 : decode cX4_healEveryCell 55 = .ok (.iload_n 2, 1) := by decide +kernel
theorem dX4_healEveryCell_56 : decode cX4_healEveryCell 56 = .ok (.ireturn, 1) := by decide +kernel
def b_X4_healEveryCell_23 (x1 : Int32) (x3 : Int32) (x4 : Int32) (rec : Int32 → Int32 → Mem → Int32 × Int32 × Mem) (v2 : Int32) (v5 : Int32) (N : Mem) : Int32 × Int32 × Mem :=
  if 2 ≤ v5 then (v2, v5, N)
  else zlet (f_X0_heal x4 v5 N) (fun q1 =>
  rec (v2 + q1.1) (v5 + 1) q1.2)
def l_X4_healEveryCell_23 (x1 : Int32) (x3 : Int32) (x4 : Int32) : Nat → Int32 → Int32 → Mem → Int32 × Int32 × Mem
  | 0, v2, v5, N => (v2, v5, N)
  | n + 1, v2, v5, N => b_X4_healEveryCell_23 x1 x3 x4 (l_X4_healEveryCell_23 x1 x3 x4 n) v2 v5 N
set_option maxRecDepth 100000 in
set_option maxHeartbeats 4000000 in
theorem kl_X4_healEveryCell_23 (q : ZQ) (x1 : Int32) (x3 : Int32) (x4 : Int32) {K : Int32 × Int32 × Mem → ZR} (hx : ∀ e : Int32 × Int32 × Mem, Zg (zgX q) mX4_healEveryCell 0 0 0 0 (K e) 49 [some (.inr 0), some (.inl x1), some (.inl e.1), some (.inl x3), some (.inl x4), some (.inl e.2.1)] [] e.2.2) :
    ∀ (n : Nat) (v2 : Int32) (v5 : Int32) (N : Mem), ((2 : Int32).toInt - (v5 : Int32).toInt).toNat < n → Zg (zgX q) mX4_healEveryCell 0 0 0 0 (zlet (l_X4_healEveryCell_23 x1 x3 x4 n v2 v5 N) K) 23 [some (.inr 0), some (.inl x1), some (.inl v2), some (.inl x3), some (.inl x4), some (.inl v5)] [] N := by
  intro n
  induction n with
  | zero => intro v2 v5 N hm; exact absurd hm (Nat.not_lt_zero _)
  | succ n ih =>
    intro v2 v5 N hm
    show Zg _ _ _ _ _ _ (zlet (b_X4_healEveryCell_23 x1 x3 x4 (l_X4_healEveryCell_23 x1 x3 x4 n) v2 v5 N) K) _ _ _ _
    unfold b_X4_healEveryCell_23
    refine zg_iload (x := v5) dX4_healEveryCell_23 rfl ?_
    refine zg_iconst (v := 2) dX4_healEveryCell_25 rfl ?_
    refine zg_icmpz (tgt := 49) dX4_healEveryCell_26 rfl rfl (fun c26 => ?_) (fun c26 => ?_)
    · refine zg_st (pc' := 49) (L' := [some (.inr 0), some (.inl x1), some (.inl v2), some (.inl x3), some (.inl x4), some (.inl v5)]) (S' := []) (M' := N) rfl rfl rfl rfl ?_
      refine zg_drop (L' := [some (.inr 0), some (.inl x1), some (.inl v2), some (.inl x3), some (.inl x4), some (.inl v5)]) ⟨rfl, rfl, rfl, rfl, rfl, rfl, trivial⟩ ?_
      exact hx (v2, v5, N)
    · refine zg_st (pc' := 29) (L' := [some (.inr 0), some (.inl x1), some (.inl v2), some (.inl x3), some (.inl x4), some (.inl v5)]) (S' := []) (M' := N) rfl rfl rfl rfl ?_
      refine zg_iload_n (x := v2) dX4_healEveryCell_29 rfl ?_
      refine zg_aload_n (x := 0) dX4_healEveryCell_30 rfl ?_
      refine zg_getf (v := .inr 1) dX4_healEveryCell_31 zf_X4_12 rfl rfl rfl ?_
      refine zg_iload (x := x4) dX4_healEveryCell_34 rfl ?_
      refine zg_iload (x := v5) dX4_healEveryCell_36 rfl ?_
      refine zg_cVIM (As := [.inl x4, .inl v5]) (S := [.inl v2]) dX4_healEveryCell_38 zk_X4_237 (k_X0_heal q x4 v5 N) rfl rfl ⟨by decide, by decide⟩ ⟨by decide, by decide⟩ rfl (Nat.le_of_ble_eq_true rfl) (fun q1 e_q1 => ?_)
      try dsimp only
      refine zg_st (pc' := 41) (L' := [some (.inr 0), some (.inl x1), some (.inl v2), some (.inl x3), some (.inl x4), some (.inl v5)]) (S' := [.inl q1.1, .inl v2]) (M' := q1.2) rfl rfl rfl rfl ?_
      refine zg_iadd dX4_healEveryCell_41 ?_
      refine zg_istore_n dX4_healEveryCell_42 (by decide) ?_
      refine zg_st (pc' := 43) (L' := [some (.inr 0), some (.inl x1), some (.inl (v2 + q1.1)), some (.inl x3), some (.inl x4), some (.inl v5)]) (S' := []) (M' := q1.2) rfl rfl rfl rfl ?_
      refine zg_iinc (v := (v5 + 1)) dX4_healEveryCell_43 rfl (by decide) rfl ?_
      refine zg_st (pc' := 46) (L' := [some (.inr 0), some (.inl x1), some (.inl (v2 + q1.1)), some (.inl x3), some (.inl x4), some (.inl (v5 + 1))]) (S' := []) (M' := q1.2) rfl rfl rfl rfl ?_
      refine zg_goto (tgt := 23) dX4_healEveryCell_46 rfl ?_
      refine zg_st (pc' := 23) (L' := [some (.inr 0), some (.inl x1), some (.inl (v2 + q1.1)), some (.inl x3), some (.inl x4), some (.inl (v5 + 1))]) (S' := []) (M' := q1.2) rfl rfl rfl rfl ?_
      refine zg_drop (L' := [some (.inr 0), some (.inl x1), some (.inl (v2 + q1.1)), some (.inl x3), some (.inl x4), some (.inl (v5 + 1))]) ⟨rfl, rfl, rfl, rfl, rfl, rfl, trivial⟩ ?_
      exact ih (v2 + q1.1) (v5 + 1) q1.2 (z_up c26 hm)
def b_X4_healEveryCell_4 (x1 : Int32) (rec : Int32 → Int32 → Mem → Int32 × Int32 × Mem) (v2 : Int32) (v3 : Int32) (N : Mem) : Int32 × Int32 × Mem :=
  if 2 ≤ v3 then (v2, v3, N)
  else zlet (l_X4_healEveryCell_23 x1 v3 (f_X3_placeOf x1 v3 N) 3 v2 0 N) (fun s2 =>
  rec s2.1 (v3 + 1) s2.2.2)
def l_X4_healEveryCell_4 (x1 : Int32) : Nat → Int32 → Int32 → Mem → Int32 × Int32 × Mem
  | 0, v2, v3, N => (v2, v3, N)
  | n + 1, v2, v3, N => b_X4_healEveryCell_4 x1 (l_X4_healEveryCell_4 x1 n) v2 v3 N
set_option maxRecDepth 100000 in
set_option maxHeartbeats 4000000 in
theorem kl_X4_healEveryCell_4 (q : ZQ) (x1 : Int32) {K : Int32 × Int32 × Mem → ZR} (hx : ∀ e : Int32 × Int32 × Mem, Zg (zgX q) mX4_healEveryCell 0 0 0 0 (K e) 55 [some (.inr 0), some (.inl x1), some (.inl e.1), some (.inl e.2.1), none, none] [] e.2.2) :
    ∀ (n : Nat) (v2 : Int32) (v3 : Int32) (N : Mem), ((2 : Int32).toInt - (v3 : Int32).toInt).toNat < n → Zg (zgX q) mX4_healEveryCell 0 0 0 0 (zlet (l_X4_healEveryCell_4 x1 n v2 v3 N) K) 4 [some (.inr 0), some (.inl x1), some (.inl v2), some (.inl v3), none, none] [] N := by
  intro n
  induction n with
  | zero => intro v2 v3 N hm; exact absurd hm (Nat.not_lt_zero _)
  | succ n ih =>
    intro v2 v3 N hm
    show Zg _ _ _ _ _ _ (zlet (b_X4_healEveryCell_4 x1 (l_X4_healEveryCell_4 x1 n) v2 v3 N) K) _ _ _ _
    unfold b_X4_healEveryCell_4
    refine zg_iload_n (x := v3) dX4_healEveryCell_4 rfl ?_
    refine zg_iconst (v := 2) dX4_healEveryCell_5 rfl ?_
    refine zg_icmpz (tgt := 55) dX4_healEveryCell_6 rfl rfl (fun c6 => ?_) (fun c6 => ?_)
    · refine zg_st (pc' := 55) (L' := [some (.inr 0), some (.inl x1), some (.inl v2), some (.inl v3), none, none]) (S' := []) (M' := N) rfl rfl rfl rfl ?_
      refine zg_drop (L' := [some (.inr 0), some (.inl x1), some (.inl v2), some (.inl v3), none, none]) ⟨rfl, rfl, rfl, rfl, trivial⟩ ?_
      exact hx (v2, v3, N)
    · refine zg_st (pc' := 9) (L' := [some (.inr 0), some (.inl x1), some (.inl v2), some (.inl v3), none, none]) (S' := []) (M' := N) rfl rfl rfl rfl ?_
      refine zg_aload_n (x := 0) dX4_healEveryCell_9 rfl ?_
      refine zg_getf (v := .inr 2) dX4_healEveryCell_10 zf_X4_19 rfl rfl rfl ?_
      refine zg_iload_n (x := x1) dX4_healEveryCell_13 rfl ?_
      refine zg_iload_n (x := v3) dX4_healEveryCell_14 rfl ?_
      refine zg_cV1 (As := [.inl x1, .inl v3]) (S := []) (v := (f_X3_placeOf x1 v3 N)) dX4_healEveryCell_15 zk_X4_209 (k_X3_placeOf q x1 v3 N) rfl rfl ⟨by decide, by decide⟩ ⟨by decide, by decide⟩ rfl (Nat.le_of_ble_eq_true rfl) ?_
      refine zg_st (pc' := 18) (L' := [some (.inr 0), some (.inl x1), some (.inl v2), some (.inl v3), none, none]) (S' := [.inl (f_X3_placeOf x1 v3 N)]) (M' := N) rfl rfl rfl rfl ?_
      refine zg_istore dX4_healEveryCell_18 (by decide) ?_
      refine zg_st (pc' := 20) (L' := [some (.inr 0), some (.inl x1), some (.inl v2), some (.inl v3), some (.inl (f_X3_placeOf x1 v3 N)), none]) (S' := []) (M' := N) rfl rfl rfl rfl ?_
      refine zg_iconst (v := 0) dX4_healEveryCell_20 rfl ?_
      refine zg_istore dX4_healEveryCell_21 (by decide) ?_
      refine zg_st (pc' := 23) (L' := [some (.inr 0), some (.inl x1), some (.inl v2), some (.inl v3), some (.inl (f_X3_placeOf x1 v3 N)), some (.inl 0)]) (S' := []) (M' := N) rfl rfl rfl rfl ?_
      refine zg_asc ?_
      refine zg_drop (L' := [some (.inr 0), some (.inl x1), some (.inl v2), some (.inl v3), some (.inl (f_X3_placeOf x1 v3 N)), some (.inl 0)]) ⟨rfl, rfl, rfl, rfl, rfl, rfl, trivial⟩ ?_
      refine kl_X4_healEveryCell_23 q x1 v3 (f_X3_placeOf x1 v3 N)  (fun s2 => ?_) 3 v2 0 N (by decide)
      try dsimp only [Sum.elim_inr]
      refine zg_st (pc' := 49) (L' := [some (.inr 0), some (.inl x1), some (.inl s2.1), some (.inl v3), some (.inl (f_X3_placeOf x1 v3 N)), some (.inl s2.2.1)]) (S' := []) (M' := s2.2.2) rfl rfl rfl rfl ?_
      refine zg_iinc (v := (v3 + 1)) dX4_healEveryCell_49 rfl (by decide) rfl ?_
      refine zg_st (pc' := 52) (L' := [some (.inr 0), some (.inl x1), some (.inl s2.1), some (.inl (v3 + 1)), some (.inl (f_X3_placeOf x1 v3 N)), some (.inl s2.2.1)]) (S' := []) (M' := s2.2.2) rfl rfl rfl rfl ?_
      refine zg_goto (tgt := 4) dX4_healEveryCell_52 rfl ?_
      refine zg_st (pc' := 4) (L' := [some (.inr 0), some (.inl x1), some (.inl s2.1), some (.inl (v3 + 1)), some (.inl (f_X3_placeOf x1 v3 N)), some (.inl s2.2.1)]) (S' := []) (M' := s2.2.2) rfl rfl rfl rfl ?_
      refine zg_drop (L' := [some (.inr 0), some (.inl x1), some (.inl s2.1), some (.inl (v3 + 1)), none, none]) ⟨rfl, rfl, rfl, rfl, trivial⟩ ?_
      exact ih s2.1 (v3 + 1) s2.2.2 (z_up c6 hm)
def f_X4_healEveryCell (p1 : Int32) (M : Mem) : (Int32 × Mem) :=
  zlet (l_X4_healEveryCell_4 p1 3 0 0 M) (fun s3 =>
  (s3.1, s3.2.2))
set_option maxRecDepth 100000 in
set_option maxHeartbeats 4000000 in
theorem k_X4_healEveryCell (q : ZQ) (p1 : Int32) (M : Mem) : Zc (zgX q) mX4_healEveryCell 0 0 [.inr 0, .inl p1] M (wIM (f_X4_healEveryCell p1 M)) := by
  refine Zc.of (by decide) zi_X4_healEveryCell.1 (Nat.le_of_ble_eq_true rfl) rfl ?_
  show Zg _ _ _ _ _ _ (zlet (f_X4_healEveryCell p1 M) wIM) _ _ _ _
  unfold f_X4_healEveryCell
  refine zg_iconst (v := 0) dX4_healEveryCell_0 rfl ?_
  refine zg_istore_n dX4_healEveryCell_1 (by decide) ?_
  refine zg_st (pc' := 2) (L' := [some (.inr 0), some (.inl p1), some (.inl 0), none, none, none]) (S' := []) (M' := M) rfl rfl rfl rfl ?_
  refine zg_iconst (v := 0) dX4_healEveryCell_2 rfl ?_
  refine zg_istore_n dX4_healEveryCell_3 (by decide) ?_
  refine zg_st (pc' := 4) (L' := [some (.inr 0), some (.inl p1), some (.inl 0), some (.inl 0), none, none]) (S' := []) (M' := M) rfl rfl rfl rfl ?_
  refine zg_asc ?_
  refine zg_drop (L' := [some (.inr 0), some (.inl p1), some (.inl 0), some (.inl 0), none, none]) ⟨rfl, rfl, rfl, rfl, trivial⟩ ?_
  refine kl_X4_healEveryCell_4 q p1  (fun s3 => ?_) 3 0 0 M (by decide)
  try dsimp only [Sum.elim_inr]
  refine zg_st (pc' := 55) (L' := [some (.inr 0), some (.inl p1), some (.inl s3.1), some (.inl s3.2.1), none, none]) (S' := []) (M' := s3.2.2) rfl rfl rfl rfl ?_
  refine zg_iload_n (x := s3.1) dX4_healEveryCell_55 rfl ?_
  exact zg_iret dX4_healEveryCell_56 rfl rfl ⟨by decide, by decide⟩ rfl
theorem dX4_scrubFile_0 : decode cX4_scrubFile 0 = .ok (.iload_n 1, 1) := by decide +kernel
theorem dX4_scrubFile_1 : decode cX4_scrubFile 1 = .ok (.invokestatic 93, 3) := by decide +kernel
theorem dX4_scrubFile_4 : decode cX4_scrubFile 4 = .ok (.istore_n 2, 1) := by decide +kernel
theorem dX4_scrubFile_5 : decode cX4_scrubFile 5 = .ok (.aload_n 0, 1) := by decide +kernel
theorem dX4_scrubFile_6 : decode cX4_scrubFile 6 = .ok (.iload_n 2, 1) := by decide +kernel
theorem dX4_scrubFile_7 : decode cX4_scrubFile 7 = .ok (.invokevirtual 194, 3) := by decide +kernel
theorem dX4_scrubFile_10 : decode cX4_scrubFile 10 = .ok (.ifCond .ne 5, 3) := by decide +kernel
theorem dX4_scrubFile_13 : decode cX4_scrubFile 13 = .ok (.iconst 0, 1) := by decide +kernel
theorem dX4_scrubFile_14 : decode cX4_scrubFile 14 = .ok (.ireturn, 1) := by decide +kernel
theorem dX4_scrubFile_15 : decode cX4_scrubFile 15 = .ok (.aload_n 0, 1) := by decide +kernel
theorem dX4_scrubFile_16 : decode cX4_scrubFile 16 = .ok (.iload_n 2, 1) := by decide +kernel
theorem dX4_scrubFile_17 : decode cX4_scrubFile 17 = .ok (.invokevirtual 197, 3) := by decide +kernel
theorem dX4_scrubFile_20 : decode cX4_scrubFile 20 = .ok (.istore_n 3, 1) := by decide +kernel
theorem dX4_scrubFile_21 : decode cX4_scrubFile 21 = .ok (.iconst 0, 1) := by decide +kernel
theorem dX4_scrubFile_22 : decode cX4_scrubFile 22 = .ok (.istore 4, 2) := by decide +kernel
theorem dX4_scrubFile_24 : decode cX4_scrubFile 24 = .ok (.iload 4, 2) := by decide +kernel
theorem dX4_scrubFile_26 : decode cX4_scrubFile 26 = .ok (.bipush 12, 2) := by decide +kernel
theorem dX4_scrubFile_28 : decode cX4_scrubFile 28 = .ok (.if_icmp .ge 35, 3) := by decide +kernel
theorem dX4_scrubFile_31 : decode cX4_scrubFile 31 = .ok (.iload_n 1, 1) := by decide +kernel
theorem dX4_scrubFile_32 : decode cX4_scrubFile 32 = .ok (.iload 4, 2) := by decide +kernel
theorem dX4_scrubFile_34 : decode cX4_scrubFile 34 = .ok (.invokestatic 66, 3) := by decide +kernel
theorem dX4_scrubFile_37 : decode cX4_scrubFile 37 = .ok (.istore 5, 2) := by decide +kernel
theorem dX4_scrubFile_39 : decode cX4_scrubFile 39 = .ok (.aload_n 0, 1) := by decide +kernel
theorem dX4_scrubFile_40 : decode cX4_scrubFile 40 = .ok (.iload 5, 2) := by decide +kernel
theorem dX4_scrubFile_42 : decode cX4_scrubFile 42 = .ok (.invokevirtual 194, 3) := by decide +kernel
theorem dX4_scrubFile_45 : decode cX4_scrubFile 45 = .ok (.ifCond .eq 12, 3) := by decide +kernel
theorem dX4_scrubFile_48 : decode cX4_scrubFile 48 = .ok (.iload_n 3, 1) := by decide +kernel
theorem dX4_scrubFile_49 : decode cX4_scrubFile 49 = .ok (.aload_n 0, 1) := by decide +kernel
theorem dX4_scrubFile_50 : decode cX4_scrubFile 50 = .ok (.iload 5, 2) := by decide +kernel
theorem dX4_scrubFile_52 : decode cX4_scrubFile 52 = .ok (.invokevirtual 197, 3) := by decide +kernel
theorem dX4_scrubFile_55 : decode cX4_scrubFile 55 = .ok (.iadd, 1) := by decide +kernel
theorem dX4_scrubFile_56 : decode cX4_scrubFile 56 = .ok (.istore_n 3, 1) := by decide +kernel
theorem dX4_scrubFile_57 : decode cX4_scrubFile 57 = .ok (.iinc 4 1, 3) := by decide +kernel
theorem dX4_scrubFile_60 : decode cX4_scrubFile 60 = .ok (.goto (-36), 3) := by decide +kernel
theorem dX4_scrubFile_63 : decode cX4_scrubFile 63 = .ok (.iload_n 3, 1) := by decide +kernel
theorem dX4_scrubFile_64 : decode cX4_scrubFile 64 = .ok (.ireturn, 1) := by decide +kernel
def b_X4_scrubFile_24 (x1 : Int32) (rec : Int32 → Int32 → Mem → Int32 × Int32 × Mem) (v3 : Int32) (v4 : Int32) (N : Mem) : Int32 × Int32 × Mem :=
  if 12 ≤ v4 then (v3, v4, N)
  else if (f_X4_canFetch (f_X4_blockPointer x1 v4) N) then zlet (f_X4_healEveryCell (f_X4_blockPointer x1 v4) N) (fun q2 =>
    rec (v3 + q2.1) (v4 + 1) q2.2)
  else rec v3 (v4 + 1) N
def l_X4_scrubFile_24 (x1 : Int32) : Nat → Int32 → Int32 → Mem → Int32 × Int32 × Mem
  | 0, v3, v4, N => (v3, v4, N)
  | n + 1, v3, v4, N => b_X4_scrubFile_24 x1 (l_X4_scrubFile_24 x1 n) v3 v4 N
set_option maxRecDepth 100000 in
set_option maxHeartbeats 4000000 in
theorem kl_X4_scrubFile_24 (q : ZQ) (x1 : Int32) {K : Int32 × Int32 × Mem → ZR} (hx : ∀ e : Int32 × Int32 × Mem, Zg (zgX q) mX4_scrubFile 0 0 0 0 (K e) 63 [some (.inr 0), some (.inl x1), none, some (.inl e.1), some (.inl e.2.1), none] [] e.2.2) :
    ∀ (n : Nat) (v3 : Int32) (v4 : Int32) (N : Mem), ((12 : Int32).toInt - (v4 : Int32).toInt).toNat < n → Zg (zgX q) mX4_scrubFile 0 0 0 0 (zlet (l_X4_scrubFile_24 x1 n v3 v4 N) K) 24 [some (.inr 0), some (.inl x1), none, some (.inl v3), some (.inl v4), none] [] N := by
  intro n
  induction n with
  | zero => intro v3 v4 N hm; exact absurd hm (Nat.not_lt_zero _)
  | succ n ih =>
    intro v3 v4 N hm
    show Zg _ _ _ _ _ _ (zlet (b_X4_scrubFile_24 x1 (l_X4_scrubFile_24 x1 n) v3 v4 N) K) _ _ _ _
    unfold b_X4_scrubFile_24
    refine zg_iload (x := v4) dX4_scrubFile_24 rfl ?_
    refine zg_bipush (v := 12) dX4_scrubFile_26 rfl ?_
    refine zg_icmpz (tgt := 63) dX4_scrubFile_28 rfl rfl (fun c28 => ?_) (fun c28 => ?_)
    · refine zg_st (pc' := 63) (L' := [some (.inr 0), some (.inl x1), none, some (.inl v3), some (.inl v4), none]) (S' := []) (M' := N) rfl rfl rfl rfl ?_
      refine zg_drop (L' := [some (.inr 0), some (.inl x1), none, some (.inl v3), some (.inl v4), none]) ⟨rfl, rfl, rfl, rfl, trivial⟩ ?_
      exact hx (v3, v4, N)
    · refine zg_st (pc' := 31) (L' := [some (.inr 0), some (.inl x1), none, some (.inl v3), some (.inl v4), none]) (S' := []) (M' := N) rfl rfl rfl rfl ?_
      refine zg_iload_n (x := x1) dX4_scrubFile_31 rfl ?_
      refine zg_iload (x := v4) dX4_scrubFile_32 rfl ?_
      refine zg_cS1 (As := [.inl x1, .inl v4]) (S := []) (v := (f_X4_blockPointer x1 v4)) dX4_scrubFile_34 zk_X4_66 (k_X4_blockPointer q x1 v4 N) rfl ⟨by decide, by decide⟩ ⟨by decide, by decide⟩ rfl (Nat.le_of_ble_eq_true rfl) ?_
      refine zg_st (pc' := 37) (L' := [some (.inr 0), some (.inl x1), none, some (.inl v3), some (.inl v4), none]) (S' := [.inl (f_X4_blockPointer x1 v4)]) (M' := N) rfl rfl rfl rfl ?_
      refine zg_istore dX4_scrubFile_37 (by decide) ?_
      refine zg_st (pc' := 39) (L' := [some (.inr 0), some (.inl x1), none, some (.inl v3), some (.inl v4), some (.inl (f_X4_blockPointer x1 v4))]) (S' := []) (M' := N) rfl rfl rfl rfl ?_
      refine zg_aload_n (x := 0) dX4_scrubFile_39 rfl ?_
      refine zg_iload (x := (f_X4_blockPointer x1 v4)) dX4_scrubFile_40 rfl ?_
      refine zg_cV1 (As := [.inl (f_X4_blockPointer x1 v4)]) (S := []) (v := bI ((f_X4_canFetch (f_X4_blockPointer x1 v4) N))) dX4_scrubFile_42 zk_X4_194 (k_X4_canFetch q (f_X4_blockPointer x1 v4) N) rfl rfl ⟨by decide, by decide⟩ ⟨by decide, by decide⟩ rfl (Nat.le_of_ble_eq_true rfl) ?_
      refine zg_st (pc' := 45) (L' := [some (.inr 0), some (.inl x1), none, some (.inl v3), some (.inl v4), some (.inl (f_X4_blockPointer x1 v4))]) (S' := [.inl (bI ((f_X4_canFetch (f_X4_blockPointer x1 v4) N)))]) (M' := N) rfl rfl rfl rfl ?_
      refine zg_ifbe (tgt := 57) dX4_scrubFile_45 rfl (fun c45 => ?_) (fun c45 => ?_)
      · refine zg_st (pc' := 48) (L' := [some (.inr 0), some (.inl x1), none, some (.inl v3), some (.inl v4), some (.inl (f_X4_blockPointer x1 v4))]) (S' := []) (M' := N) rfl rfl rfl rfl ?_
        refine zg_iload_n (x := v3) dX4_scrubFile_48 rfl ?_
        refine zg_aload_n (x := 0) dX4_scrubFile_49 rfl ?_
        refine zg_iload (x := (f_X4_blockPointer x1 v4)) dX4_scrubFile_50 rfl ?_
        refine zg_cVIM (As := [.inl (f_X4_blockPointer x1 v4)]) (S := [.inl v3]) dX4_scrubFile_52 zk_X4_197 (k_X4_healEveryCell q (f_X4_blockPointer x1 v4) N) rfl rfl ⟨by decide, by decide⟩ ⟨by decide, by decide⟩ rfl (Nat.le_of_ble_eq_true rfl) (fun q2 e_q2 => ?_)
        try dsimp only
        refine zg_st (pc' := 55) (L' := [some (.inr 0), some (.inl x1), none, some (.inl v3), some (.inl v4), some (.inl (f_X4_blockPointer x1 v4))]) (S' := [.inl q2.1, .inl v3]) (M' := q2.2) rfl rfl rfl rfl ?_
        refine zg_iadd dX4_scrubFile_55 ?_
        refine zg_istore_n dX4_scrubFile_56 (by decide) ?_
        refine zg_st (pc' := 57) (L' := [some (.inr 0), some (.inl x1), none, some (.inl (v3 + q2.1)), some (.inl v4), some (.inl (f_X4_blockPointer x1 v4))]) (S' := []) (M' := q2.2) rfl rfl rfl rfl ?_
        refine zg_iinc (v := (v4 + 1)) dX4_scrubFile_57 rfl (by decide) rfl ?_
        refine zg_st (pc' := 60) (L' := [some (.inr 0), some (.inl x1), none, some (.inl (v3 + q2.1)), some (.inl (v4 + 1)), some (.inl (f_X4_blockPointer x1 v4))]) (S' := []) (M' := q2.2) rfl rfl rfl rfl ?_
        refine zg_goto (tgt := 24) dX4_scrubFile_60 rfl ?_
        refine zg_st (pc' := 24) (L' := [some (.inr 0), some (.inl x1), none, some (.inl (v3 + q2.1)), some (.inl (v4 + 1)), some (.inl (f_X4_blockPointer x1 v4))]) (S' := []) (M' := q2.2) rfl rfl rfl rfl ?_
        refine zg_drop (L' := [some (.inr 0), some (.inl x1), none, some (.inl (v3 + q2.1)), some (.inl (v4 + 1)), none]) ⟨rfl, rfl, rfl, rfl, trivial⟩ ?_
        exact ih (v3 + q2.1) (v4 + 1) q2.2 (z_up c28 hm)
      · refine zg_st (pc' := 57) (L' := [some (.inr 0), some (.inl x1), none, some (.inl v3), some (.inl v4), some (.inl (f_X4_blockPointer x1 v4))]) (S' := []) (M' := N) rfl rfl rfl rfl ?_
        refine zg_iinc (v := (v4 + 1)) dX4_scrubFile_57 rfl (by decide) rfl ?_
        refine zg_st (pc' := 60) (L' := [some (.inr 0), some (.inl x1), none, some (.inl v3), some (.inl (v4 + 1)), some (.inl (f_X4_blockPointer x1 v4))]) (S' := []) (M' := N) rfl rfl rfl rfl ?_
        refine zg_goto (tgt := 24) dX4_scrubFile_60 rfl ?_
        refine zg_st (pc' := 24) (L' := [some (.inr 0), some (.inl x1), none, some (.inl v3), some (.inl (v4 + 1)), some (.inl (f_X4_blockPointer x1 v4))]) (S' := []) (M' := N) rfl rfl rfl rfl ?_
        refine zg_drop (L' := [some (.inr 0), some (.inl x1), none, some (.inl v3), some (.inl (v4 + 1)), none]) ⟨rfl, rfl, rfl, rfl, trivial⟩ ?_
        exact ih v3 (v4 + 1) N (z_up c28 hm)
def f_X4_scrubFile (p1 : Int32) (M : Mem) : (Int32 × Mem) :=
  if (f_X4_canFetch (f_X4_filePointer p1) M) then zlet (f_X4_healEveryCell (f_X4_filePointer p1) M) (fun q1 =>
    zlet (l_X4_scrubFile_24 p1 13 q1.1 0 q1.2) (fun s3 =>
      (s3.1, s3.2.2)))
  else (0, M)
set_option maxRecDepth 100000 in
set_option maxHeartbeats 4000000 in
theorem k_X4_scrubFile (q : ZQ) (p1 : Int32) (M : Mem) : Zc (zgX q) mX4_scrubFile 0 0 [.inr 0, .inl p1] M (wIM (f_X4_scrubFile p1 M)) := by
  refine Zc.of (by decide) zi_X4_scrubFile.1 (Nat.le_of_ble_eq_true rfl) rfl ?_
  show Zg _ _ _ _ _ _ (zlet (f_X4_scrubFile p1 M) wIM) _ _ _ _
  unfold f_X4_scrubFile
  refine zg_iload_n (x := p1) dX4_scrubFile_0 rfl ?_
  refine zg_cS1 (As := [.inl p1]) (S := []) (v := (f_X4_filePointer p1)) dX4_scrubFile_1 zk_X4_93 (k_X4_filePointer q p1 M) rfl ⟨by decide, by decide⟩ ⟨by decide, by decide⟩ rfl (Nat.le_of_ble_eq_true rfl) ?_
  refine zg_st (pc' := 4) (L' := [some (.inr 0), some (.inl p1), none, none, none, none]) (S' := [.inl (f_X4_filePointer p1)]) (M' := M) rfl rfl rfl rfl ?_
  refine zg_istore_n dX4_scrubFile_4 (by decide) ?_
  refine zg_st (pc' := 5) (L' := [some (.inr 0), some (.inl p1), some (.inl (f_X4_filePointer p1)), none, none, none]) (S' := []) (M' := M) rfl rfl rfl rfl ?_
  refine zg_aload_n (x := 0) dX4_scrubFile_5 rfl ?_
  refine zg_iload_n (x := (f_X4_filePointer p1)) dX4_scrubFile_6 rfl ?_
  refine zg_cV1 (As := [.inl (f_X4_filePointer p1)]) (S := []) (v := bI ((f_X4_canFetch (f_X4_filePointer p1) M))) dX4_scrubFile_7 zk_X4_194 (k_X4_canFetch q (f_X4_filePointer p1) M) rfl rfl ⟨by decide, by decide⟩ ⟨by decide, by decide⟩ rfl (Nat.le_of_ble_eq_true rfl) ?_
  refine zg_st (pc' := 10) (L' := [some (.inr 0), some (.inl p1), some (.inl (f_X4_filePointer p1)), none, none, none]) (S' := [.inl (bI ((f_X4_canFetch (f_X4_filePointer p1) M)))]) (M' := M) rfl rfl rfl rfl ?_
  refine zg_ifbn (tgt := 15) dX4_scrubFile_10 rfl (fun c10 => ?_) (fun c10 => ?_)
  · refine zg_st (pc' := 15) (L' := [some (.inr 0), some (.inl p1), some (.inl (f_X4_filePointer p1)), none, none, none]) (S' := []) (M' := M) rfl rfl rfl rfl ?_
    refine zg_aload_n (x := 0) dX4_scrubFile_15 rfl ?_
    refine zg_iload_n (x := (f_X4_filePointer p1)) dX4_scrubFile_16 rfl ?_
    refine zg_cVIM (As := [.inl (f_X4_filePointer p1)]) (S := []) dX4_scrubFile_17 zk_X4_197 (k_X4_healEveryCell q (f_X4_filePointer p1) M) rfl rfl ⟨by decide, by decide⟩ ⟨by decide, by decide⟩ rfl (Nat.le_of_ble_eq_true rfl) (fun q1 e_q1 => ?_)
    try dsimp only
    refine zg_st (pc' := 20) (L' := [some (.inr 0), some (.inl p1), some (.inl (f_X4_filePointer p1)), none, none, none]) (S' := [.inl q1.1]) (M' := q1.2) rfl rfl rfl rfl ?_
    refine zg_istore_n dX4_scrubFile_20 (by decide) ?_
    refine zg_st (pc' := 21) (L' := [some (.inr 0), some (.inl p1), some (.inl (f_X4_filePointer p1)), some (.inl q1.1), none, none]) (S' := []) (M' := q1.2) rfl rfl rfl rfl ?_
    refine zg_iconst (v := 0) dX4_scrubFile_21 rfl ?_
    refine zg_istore dX4_scrubFile_22 (by decide) ?_
    refine zg_st (pc' := 24) (L' := [some (.inr 0), some (.inl p1), some (.inl (f_X4_filePointer p1)), some (.inl q1.1), some (.inl 0), none]) (S' := []) (M' := q1.2) rfl rfl rfl rfl ?_
    refine zg_asc ?_
    refine zg_drop (L' := [some (.inr 0), some (.inl p1), none, some (.inl q1.1), some (.inl 0), none]) ⟨rfl, rfl, rfl, rfl, trivial⟩ ?_
    refine kl_X4_scrubFile_24 q p1  (fun s3 => ?_) 13 q1.1 0 q1.2 (by decide)
    try dsimp only [Sum.elim_inr]
    refine zg_st (pc' := 63) (L' := [some (.inr 0), some (.inl p1), none, some (.inl s3.1), some (.inl s3.2.1), none]) (S' := []) (M' := s3.2.2) rfl rfl rfl rfl ?_
    refine zg_iload_n (x := s3.1) dX4_scrubFile_63 rfl ?_
    exact zg_iret dX4_scrubFile_64 rfl rfl ⟨by decide, by decide⟩ rfl
  · refine zg_st (pc' := 13) (L' := [some (.inr 0), some (.inl p1), some (.inl (f_X4_filePointer p1)), none, none, none]) (S' := []) (M' := M) rfl rfl rfl rfl ?_
    refine zg_iconst (v := 0) dX4_scrubFile_13 rfl ?_
    exact zg_iret dX4_scrubFile_14 rfl rfl ⟨by decide, by decide⟩ rfl
end
section
theorem dX4_write_0 : decode cX4_write 0 = .ok (.iload_n 1, 1) := by decide +kernel
theorem dX4_write_1 : decode cX4_write 1 = .ok (.iload_n 2, 1) := by decide +kernel
theorem dX4_write_2 : decode cX4_write 2 = .ok (.invokestatic 51, 3) := by decide +kernel
theorem dX4_write_5 : decode cX4_write 5 = .ok (.ifCond .eq 15, 3) := by decide +kernel
theorem dX4_write_8 : decode cX4_write 8 = .ok (.iload_n 3, 1) := by decide +kernel
theorem dX4_write_9 : decode cX4_write 9 = .ok (.iconst 1, 1) := by decide +kernel
theorem dX4_write_10 : decode cX4_write 10 = .ok (.if_icmp .lt 10, 3) := by decide +kernel
theorem dX4_write_13 : decode cX4_write 13 = .ok (.iload_n 3, 1) := by decide +kernel
theorem dX4_write_14 : decode cX4_write 14 = .ok (.sipush 9999, 3) := by decide +kernel
theorem dX4_write_17 : decode cX4_write 17 = .ok (.if_icmp .le 13, 3) := by decide +kernel
theorem dX4_write_20 : decode cX4_write 20 = .ok (.new 55, 3) := by decide +kernel
theorem dX4_write_23 : decode cX4_write 23 = .ok (.dup, 1) := by decide +kernel
theorem dX4_write_24 : decode cX4_write 24 = .ok (.ldc 57, 2) := by decide +kernel
theorem dX4_write_26 : decode cX4_write 26 = .ok (.invokespecial 59, 3) := by decide +kernel
theorem dX4_write_29 : decode cX4_write 29 = .ok (.athrow, 1) := by decide +kernel
theorem dX4_write_30 : decode cX4_write 30 = .ok (.aload_n 0, 1) := by decide +kernel
theorem dX4_write_31 : decode cX4_write 31 = .ok (.iload_n 1, 1) := by decide +kernel
theorem dX4_write_32 : decode cX4_write 32 = .ok (.iload_n 2, 1) := by decide +kernel
theorem dX4_write_33 : decode cX4_write 33 = .ok (.invokevirtual 62, 3) := by decide +kernel
theorem dX4_write_36 : decode cX4_write 36 = .ok (.istore 4, 2) := by decide +kernel
theorem dX4_write_38 : decode cX4_write 38 = .ok (.aload_n 0, 1) := by decide +kernel
theorem dX4_write_39 : decode cX4_write 39 = .ok (.getfield 26, 3) := by decide +kernel
theorem dX4_write_42 : decode cX4_write 42 = .ok (.iload_n 1, 1) := by decide +kernel
theorem dX4_write_43 : decode cX4_write 43 = .ok (.iload_n 2, 1) := by decide +kernel
theorem dX4_write_44 : decode cX4_write 44 = .ok (.invokestatic 66, 3) := by decide +kernel
theorem dX4_write_47 : decode cX4_write 47 = .ok (.iload_n 3, 1) := by decide +kernel
theorem dX4_write_48 : decode cX4_write 48 = .ok (.invokevirtual 69, 3) := by decide +kernel
theorem dX4_write_51 : decode cX4_write 51 = .ok (.iload 4, 2) := by decide +kernel
theorem dX4_write_53 : decode cX4_write 53 = .ok (.ireturn, 1) := by decide +kernel
def f_X4_write (p1 : Int32) (p2 : Int32) (p3 : Int32) (M : Mem) : ((Int32 ⊕ String) × Mem) :=
  if (f_X4_isBlockOfFile p1 p2) then if p3 < 1 then (.inr "java/lang/IllegalArgumentException", M)
    else if p3 ≤ 9999 then zlet (f_X2_change (f_X4_blockPointer p1 p2) p3 M) (fun N1 =>
      (.inl (f_X4_valueNow p1 p2 M), N1))
    else (.inr "java/lang/IllegalArgumentException", M)
  else (.inr "java/lang/IllegalArgumentException", M)
set_option maxRecDepth 100000 in
set_option maxHeartbeats 4000000 in
theorem k_X4_write (q : ZQ) (hq : q.1.stackTraces = false) (p1 : Int32) (p2 : Int32) (p3 : Int32) (M : Mem) : Zc (zgX q) mX4_write 1 6 [.inr 0, .inl p1, .inl p2, .inl p3] M (xIM (f_X4_write p1 p2 p3 M)) := by
  refine Zc.of (by decide) zi_X4_write.1 (Nat.le_of_ble_eq_true rfl) rfl ?_
  show Zg _ _ _ _ _ _ (zlet (f_X4_write p1 p2 p3 M) xIM) _ _ _ _
  unfold f_X4_write
  refine zg_iload_n (x := p1) dX4_write_0 rfl ?_
  refine zg_iload_n (x := p2) dX4_write_1 rfl ?_
  refine zg_cS1 (As := [.inl p1, .inl p2]) (S := []) (v := bI ((f_X4_isBlockOfFile p1 p2))) dX4_write_2 zk_X4_51 (k_X4_isBlockOfFile q p1 p2 M) rfl ⟨by decide, by decide⟩ ⟨by decide, by decide⟩ rfl (Nat.le_of_ble_eq_true rfl) ?_
  refine zg_st (pc' := 5) (L' := [some (.inr 0), some (.inl p1), some (.inl p2), some (.inl p3), none]) (S' := [.inl (bI ((f_X4_isBlockOfFile p1 p2)))]) (M' := M) rfl rfl rfl rfl ?_
  refine zg_ifbe (tgt := 20) dX4_write_5 rfl (fun c5 => ?_) (fun c5 => ?_)
  · refine zg_st (pc' := 8) (L' := [some (.inr 0), some (.inl p1), some (.inl p2), some (.inl p3), none]) (S' := []) (M' := M) rfl rfl rfl rfl ?_
    refine zg_iload_n (x := p3) dX4_write_8 rfl ?_
    refine zg_iconst (v := 1) dX4_write_9 rfl ?_
    refine zg_icmpz (tgt := 20) dX4_write_10 rfl rfl (fun c10 => ?_) (fun c10 => ?_)
    · refine zg_st (pc' := 20) (L' := [some (.inr 0), some (.inl p1), some (.inl p2), some (.inl p3), none]) (S' := []) (M' := M) rfl rfl rfl rfl ?_
      exact zg_throw (text := "file, block or value is out of range") hq zt_55 rfl (by decide) dX4_write_20 dX4_write_23 dX4_write_24 dX4_write_26 dX4_write_29 (by decide) (Nat.le_of_ble_eq_true rfl) (by decide) (by decide) rfl
    · refine zg_st (pc' := 13) (L' := [some (.inr 0), some (.inl p1), some (.inl p2), some (.inl p3), none]) (S' := []) (M' := M) rfl rfl rfl rfl ?_
      refine zg_iload_n (x := p3) dX4_write_13 rfl ?_
      refine zg_sipush (v := 9999) dX4_write_14 rfl ?_
      refine zg_icmpz (tgt := 30) dX4_write_17 rfl rfl (fun c17 => ?_) (fun c17 => ?_)
      · refine zg_st (pc' := 30) (L' := [some (.inr 0), some (.inl p1), some (.inl p2), some (.inl p3), none]) (S' := []) (M' := M) rfl rfl rfl rfl ?_
        refine zg_aload_n (x := 0) dX4_write_30 rfl ?_
        refine zg_iload_n (x := p1) dX4_write_31 rfl ?_
        refine zg_iload_n (x := p2) dX4_write_32 rfl ?_
        refine zg_cV1 (As := [.inl p1, .inl p2]) (S := []) (v := (f_X4_valueNow p1 p2 M)) dX4_write_33 zk_X4_62 (k_X4_valueNow q p1 p2 M) rfl rfl ⟨by decide, by decide⟩ ⟨by decide, by decide⟩ rfl (Nat.le_of_ble_eq_true rfl) ?_
        refine zg_st (pc' := 36) (L' := [some (.inr 0), some (.inl p1), some (.inl p2), some (.inl p3), none]) (S' := [.inl (f_X4_valueNow p1 p2 M)]) (M' := M) rfl rfl rfl rfl ?_
        refine zg_istore dX4_write_36 (by decide) ?_
        refine zg_st (pc' := 38) (L' := [some (.inr 0), some (.inl p1), some (.inl p2), some (.inl p3), some (.inl (f_X4_valueNow p1 p2 M))]) (S' := []) (M' := M) rfl rfl rfl rfl ?_
        refine zg_aload_n (x := 0) dX4_write_38 rfl ?_
        refine zg_getf (v := .inr 3) dX4_write_39 zf_X4_26 rfl rfl rfl ?_
        refine zg_iload_n (x := p1) dX4_write_42 rfl ?_
        refine zg_iload_n (x := p2) dX4_write_43 rfl ?_
        refine zg_cS1 (As := [.inl p1, .inl p2]) (S := [.inr 3]) (v := (f_X4_blockPointer p1 p2)) dX4_write_44 zk_X4_66 (k_X4_blockPointer q p1 p2 M) rfl ⟨by decide, by decide⟩ ⟨by decide, by decide⟩ rfl (Nat.le_of_ble_eq_true rfl) ?_
        refine zg_st (pc' := 47) (L' := [some (.inr 0), some (.inl p1), some (.inl p2), some (.inl p3), some (.inl (f_X4_valueNow p1 p2 M))]) (S' := [.inl (f_X4_blockPointer p1 p2), .inr 3]) (M' := M) rfl rfl rfl rfl ?_
        refine zg_iload_n (x := p3) dX4_write_47 rfl ?_
        refine zg_cVV (As := [.inl (f_X4_blockPointer p1 p2), .inl p3]) (S := []) dX4_write_48 zk_X4_69 (k_X2_change q (f_X4_blockPointer p1 p2) p3 M) rfl rfl ⟨by decide, by decide⟩ ⟨by decide, by decide⟩ rfl (Nat.le_of_ble_eq_true rfl) (fun N1 e_N1 => ?_)
        try dsimp only
        refine zg_st (pc' := 51) (L' := [some (.inr 0), some (.inl p1), some (.inl p2), some (.inl p3), some (.inl (f_X4_valueNow p1 p2 M))]) (S' := []) (M' := N1) rfl rfl rfl rfl ?_
        refine zg_iload (x := (f_X4_valueNow p1 p2 M)) dX4_write_51 rfl ?_
        exact zg_iret dX4_write_53 rfl rfl ⟨by decide, by decide⟩ rfl
      · refine zg_st (pc' := 20) (L' := [some (.inr 0), some (.inl p1), some (.inl p2), some (.inl p3), none]) (S' := []) (M' := M) rfl rfl rfl rfl ?_
        exact zg_throw (text := "file, block or value is out of range") hq zt_55 rfl (by decide) dX4_write_20 dX4_write_23 dX4_write_24 dX4_write_26 dX4_write_29 (by decide) (Nat.le_of_ble_eq_true rfl) (by decide) (by decide) rfl
  · refine zg_st (pc' := 20) (L' := [some (.inr 0), some (.inl p1), some (.inl p2), some (.inl p3), none]) (S' := []) (M' := M) rfl rfl rfl rfl ?_
    exact zg_throw (text := "file, block or value is out of range") hq zt_55 rfl (by decide) dX4_write_20 dX4_write_23 dX4_write_24 dX4_write_26 dX4_write_29 (by decide) (Nat.le_of_ble_eq_true rfl) (by decide) (by decide) rfl
theorem dX4_punch_0 : decode cX4_punch 0 = .ok (.iload_n 1, 1) := by decide +kernel
theorem dX4_punch_1 : decode cX4_punch 1 = .ok (.iload_n 2, 1) := by decide +kernel
theorem dX4_punch_2 : decode cX4_punch 2 = .ok (.invokestatic 51, 3) := by decide +kernel
theorem dX4_punch_5 : decode cX4_punch 5 = .ok (.ifCond .eq 15, 3) := by decide +kernel
theorem dX4_punch_8 : decode cX4_punch 8 = .ok (.iload_n 3, 1) := by decide +kernel
theorem dX4_punch_9 : decode cX4_punch 9 = .ok (.invokestatic 73, 3) := by decide +kernel
theorem dX4_punch_12 : decode cX4_punch 12 = .ok (.ifCond .eq 8, 3) := by decide +kernel
theorem dX4_punch_15 : decode cX4_punch 15 = .ok (.iload_n 3, 1) := by decide +kernel
theorem dX4_punch_16 : decode cX4_punch 16 = .ok (.iload_n 2, 1) := by decide +kernel
theorem dX4_punch_17 : decode cX4_punch 17 = .ok (.if_icmp .ge 13, 3) := by decide +kernel
theorem dX4_punch_20 : decode cX4_punch 20 = .ok (.new 55, 3) := by decide +kernel
theorem dX4_punch_23 : decode cX4_punch 23 = .ok (.dup, 1) := by decide +kernel
theorem dX4_punch_24 : decode cX4_punch 24 = .ok (.ldc 77, 2) := by decide +kernel
theorem dX4_punch_26 : decode cX4_punch 26 = .ok (.invokespecial 59, 3) := by decide +kernel
theorem dX4_punch_29 : decode cX4_punch 29 = .ok (.athrow, 1) := by decide +kernel
theorem dX4_punch_30 : decode cX4_punch 30 = .ok (.iconst 0, 1) := by decide +kernel
theorem dX4_punch_31 : decode cX4_punch 31 = .ok (.istore 4, 2) := by decide +kernel
theorem dX4_punch_33 : decode cX4_punch 33 = .ok (.iload_n 2, 1) := by decide +kernel
theorem dX4_punch_34 : decode cX4_punch 34 = .ok (.istore 5, 2) := by decide +kernel
theorem dX4_punch_36 : decode cX4_punch 36 = .ok (.iload 5, 2) := by decide +kernel
theorem dX4_punch_38 : decode cX4_punch 38 = .ok (.iload_n 3, 1) := by decide +kernel
theorem dX4_punch_39 : decode cX4_punch 39 = .ok (.if_icmp .gt 36, 3) := by decide +kernel
theorem dX4_punch_42 : decode cX4_punch 42 = .ok (.aload_n 0, 1) := by decide +kernel
theorem dX4_punch_43 : decode cX4_punch 43 = .ok (.iload_n 1, 1) := by decide +kernel
theorem dX4_punch_44 : decode cX4_punch 44 = .ok (.iload 5, 2) := by decide +kernel
theorem dX4_punch_46 : decode cX4_punch 46 = .ok (.invokevirtual 62, 3) := by decide +kernel
theorem dX4_punch_49 : decode cX4_punch 49 = .ok (.ifCond .eq 6, 3) := by decide +kernel
theorem dX4_punch_52 : decode cX4_punch 52 = .ok (.iinc 4 1, 3) := by decide +kernel
theorem dX4_punch_55 : decode cX4_punch 55 = .ok (.aload_n 0, 1) := by decide +kernel
theorem dX4_punch_56 : decode cX4_punch 56 = .ok (.getfield 26, 3) := by decide +kernel
theorem dX4_punch_59 : decode cX4_punch 59 = .ok (.iload_n 1, 1) := by decide +kernel
theorem dX4_punch_60 : decode cX4_punch 60 = .ok (.iload 5, 2) := by decide +kernel
theorem dX4_punch_62 : decode cX4_punch 62 = .ok (.invokestatic 66, 3) := by decide +kernel
theorem dX4_punch_65 : decode cX4_punch 65 = .ok (.iconst 0, 1) := by decide +kernel
theorem dX4_punch_66 : decode cX4_punch 66 = .ok (.invokevirtual 69, 3) := by decide +kernel
theorem dX4_punch_69 : decode cX4_punch 69 = .ok (.iinc 5 1, 3) := by decide +kernel
theorem dX4_punch_72 : decode cX4_punch 72 = .ok (.goto (-36), 3) := by decide +kernel
theorem dX4_punch_75 : decode cX4_punch 75 = .ok (.iload 4, 2) := by decide +kernel
theorem dX4_punch_77 : decode cX4_punch 77 = .ok (.ireturn, 1) := by decide +kernel
def b_X4_punch_36 (x1 : Int32) (x3 : Int32) (rec : Int32 → Int32 → Mem → Int32 × Int32 × Mem) (v4 : Int32) (v5 : Int32) (N : Mem) : Int32 × Int32 × Mem :=
  if x3 < v5 then (v4, v5, N)
  else if (f_X4_valueNow x1 v5 N) = 0 then zlet (f_X2_change (f_X4_blockPointer x1 v5) 0 N) (fun N1 =>
    rec v4 (v5 + 1) N1)
  else zlet (f_X2_change (f_X4_blockPointer x1 v5) 0 N) (fun N2 =>
  rec (v4 + 1) (v5 + 1) N2)
def l_X4_punch_36 (x1 : Int32) (x3 : Int32) : Nat → Int32 → Int32 → Mem → Int32 × Int32 × Mem
  | 0, v4, v5, N => (v4, v5, N)
  | n + 1, v4, v5, N => b_X4_punch_36 x1 x3 (l_X4_punch_36 x1 x3 n) v4 v5 N
set_option maxRecDepth 100000 in
set_option maxHeartbeats 4000000 in
theorem kl_X4_punch_36 (q : ZQ) (hq : q.1.stackTraces = false) (x1 : Int32) (x3 : Int32) (hx3 : x3.toInt < 12) {K : Int32 × Int32 × Mem → ZR} (hx : ∀ e : Int32 × Int32 × Mem, Zg (zgX q) mX4_punch 1 6 0 0 (K e) 75 [some (.inr 0), some (.inl x1), none, some (.inl x3), some (.inl e.1), some (.inl e.2.1)] [] e.2.2) :
    ∀ (n : Nat) (v4 : Int32) (v5 : Int32) (N : Mem), ((x3 : Int32).toInt + 1 - (v5 : Int32).toInt).toNat < n → Zg (zgX q) mX4_punch 1 6 0 0 (zlet (l_X4_punch_36 x1 x3 n v4 v5 N) K) 36 [some (.inr 0), some (.inl x1), none, some (.inl x3), some (.inl v4), some (.inl v5)] [] N := by
  intro n
  induction n with
  | zero => intro v4 v5 N hm; exact absurd hm (Nat.not_lt_zero _)
  | succ n ih =>
    intro v4 v5 N hm
    show Zg _ _ _ _ _ _ (zlet (b_X4_punch_36 x1 x3 (l_X4_punch_36 x1 x3 n) v4 v5 N) K) _ _ _ _
    unfold b_X4_punch_36
    refine zg_iload (x := v5) dX4_punch_36 rfl ?_
    refine zg_iload_n (x := x3) dX4_punch_38 rfl ?_
    refine zg_icmpz (tgt := 75) dX4_punch_39 rfl rfl (fun c39 => ?_) (fun c39 => ?_)
    · refine zg_st (pc' := 75) (L' := [some (.inr 0), some (.inl x1), none, some (.inl x3), some (.inl v4), some (.inl v5)]) (S' := []) (M' := N) rfl rfl rfl rfl ?_
      refine zg_drop (L' := [some (.inr 0), some (.inl x1), none, some (.inl x3), some (.inl v4), some (.inl v5)]) ⟨rfl, rfl, rfl, rfl, rfl, trivial⟩ ?_
      exact hx (v4, v5, N)
    · refine zg_st (pc' := 42) (L' := [some (.inr 0), some (.inl x1), none, some (.inl x3), some (.inl v4), some (.inl v5)]) (S' := []) (M' := N) rfl rfl rfl rfl ?_
      refine zg_aload_n (x := 0) dX4_punch_42 rfl ?_
      refine zg_iload_n (x := x1) dX4_punch_43 rfl ?_
      refine zg_iload (x := v5) dX4_punch_44 rfl ?_
      refine zg_cV1 (As := [.inl x1, .inl v5]) (S := []) (v := (f_X4_valueNow x1 v5 N)) dX4_punch_46 zk_X4_62 (k_X4_valueNow q x1 v5 N) rfl rfl ⟨by decide, by decide⟩ ⟨by decide, by decide⟩ rfl (Nat.le_of_ble_eq_true rfl) ?_
      refine zg_st (pc' := 49) (L' := [some (.inr 0), some (.inl x1), none, some (.inl x3), some (.inl v4), some (.inl v5)]) (S' := [.inl (f_X4_valueNow x1 v5 N)]) (M' := N) rfl rfl rfl rfl ?_
      refine zg_ifz (tgt := 55) dX4_punch_49 rfl rfl (fun c49 => ?_) (fun c49 => ?_)
      · refine zg_st (pc' := 55) (L' := [some (.inr 0), some (.inl x1), none, some (.inl x3), some (.inl v4), some (.inl v5)]) (S' := []) (M' := N) rfl rfl rfl rfl ?_
        refine zg_aload_n (x := 0) dX4_punch_55 rfl ?_
        refine zg_getf (v := .inr 3) dX4_punch_56 zf_X4_26 rfl rfl rfl ?_
        refine zg_iload_n (x := x1) dX4_punch_59 rfl ?_
        refine zg_iload (x := v5) dX4_punch_60 rfl ?_
        refine zg_cS1 (As := [.inl x1, .inl v5]) (S := [.inr 3]) (v := (f_X4_blockPointer x1 v5)) dX4_punch_62 zk_X4_66 (k_X4_blockPointer q x1 v5 N) rfl ⟨by decide, by decide⟩ ⟨by decide, by decide⟩ rfl (Nat.le_of_ble_eq_true rfl) ?_
        refine zg_st (pc' := 65) (L' := [some (.inr 0), some (.inl x1), none, some (.inl x3), some (.inl v4), some (.inl v5)]) (S' := [.inl (f_X4_blockPointer x1 v5), .inr 3]) (M' := N) rfl rfl rfl rfl ?_
        refine zg_iconst (v := 0) dX4_punch_65 rfl ?_
        refine zg_cVV (As := [.inl (f_X4_blockPointer x1 v5), .inl 0]) (S := []) dX4_punch_66 zk_X4_69 (k_X2_change q (f_X4_blockPointer x1 v5) 0 N) rfl rfl ⟨by decide, by decide⟩ ⟨by decide, by decide⟩ rfl (Nat.le_of_ble_eq_true rfl) (fun N1 e_N1 => ?_)
        try dsimp only
        refine zg_st (pc' := 69) (L' := [some (.inr 0), some (.inl x1), none, some (.inl x3), some (.inl v4), some (.inl v5)]) (S' := []) (M' := N1) rfl rfl rfl rfl ?_
        refine zg_iinc (v := (v5 + 1)) dX4_punch_69 rfl (by decide) rfl ?_
        refine zg_st (pc' := 72) (L' := [some (.inr 0), some (.inl x1), none, some (.inl x3), some (.inl v4), some (.inl (v5 + 1))]) (S' := []) (M' := N1) rfl rfl rfl rfl ?_
        refine zg_goto (tgt := 36) dX4_punch_72 rfl ?_
        refine zg_st (pc' := 36) (L' := [some (.inr 0), some (.inl x1), none, some (.inl x3), some (.inl v4), some (.inl (v5 + 1))]) (S' := []) (M' := N1) rfl rfl rfl rfl ?_
        refine zg_drop (L' := [some (.inr 0), some (.inl x1), none, some (.inl x3), some (.inl v4), some (.inl (v5 + 1))]) ⟨rfl, rfl, rfl, rfl, rfl, trivial⟩ ?_
        exact ih v4 (v5 + 1) N1 (z_upe c39 (by omega) hm)
      · refine zg_st (pc' := 52) (L' := [some (.inr 0), some (.inl x1), none, some (.inl x3), some (.inl v4), some (.inl v5)]) (S' := []) (M' := N) rfl rfl rfl rfl ?_
        refine zg_iinc (v := (v4 + 1)) dX4_punch_52 rfl (by decide) rfl ?_
        refine zg_st (pc' := 55) (L' := [some (.inr 0), some (.inl x1), none, some (.inl x3), some (.inl (v4 + 1)), some (.inl v5)]) (S' := []) (M' := N) rfl rfl rfl rfl ?_
        refine zg_aload_n (x := 0) dX4_punch_55 rfl ?_
        refine zg_getf (v := .inr 3) dX4_punch_56 zf_X4_26 rfl rfl rfl ?_
        refine zg_iload_n (x := x1) dX4_punch_59 rfl ?_
        refine zg_iload (x := v5) dX4_punch_60 rfl ?_
        refine zg_cS1 (As := [.inl x1, .inl v5]) (S := [.inr 3]) (v := (f_X4_blockPointer x1 v5)) dX4_punch_62 zk_X4_66 (k_X4_blockPointer q x1 v5 N) rfl ⟨by decide, by decide⟩ ⟨by decide, by decide⟩ rfl (Nat.le_of_ble_eq_true rfl) ?_
        refine zg_st (pc' := 65) (L' := [some (.inr 0), some (.inl x1), none, some (.inl x3), some (.inl (v4 + 1)), some (.inl v5)]) (S' := [.inl (f_X4_blockPointer x1 v5), .inr 3]) (M' := N) rfl rfl rfl rfl ?_
        refine zg_iconst (v := 0) dX4_punch_65 rfl ?_
        refine zg_cVV (As := [.inl (f_X4_blockPointer x1 v5), .inl 0]) (S := []) dX4_punch_66 zk_X4_69 (k_X2_change q (f_X4_blockPointer x1 v5) 0 N) rfl rfl ⟨by decide, by decide⟩ ⟨by decide, by decide⟩ rfl (Nat.le_of_ble_eq_true rfl) (fun N2 e_N2 => ?_)
        try dsimp only
        refine zg_st (pc' := 69) (L' := [some (.inr 0), some (.inl x1), none, some (.inl x3), some (.inl (v4 + 1)), some (.inl v5)]) (S' := []) (M' := N2) rfl rfl rfl rfl ?_
        refine zg_iinc (v := (v5 + 1)) dX4_punch_69 rfl (by decide) rfl ?_
        refine zg_st (pc' := 72) (L' := [some (.inr 0), some (.inl x1), none, some (.inl x3), some (.inl (v4 + 1)), some (.inl (v5 + 1))]) (S' := []) (M' := N2) rfl rfl rfl rfl ?_
        refine zg_goto (tgt := 36) dX4_punch_72 rfl ?_
        refine zg_st (pc' := 36) (L' := [some (.inr 0), some (.inl x1), none, some (.inl x3), some (.inl (v4 + 1)), some (.inl (v5 + 1))]) (S' := []) (M' := N2) rfl rfl rfl rfl ?_
        refine zg_drop (L' := [some (.inr 0), some (.inl x1), none, some (.inl x3), some (.inl (v4 + 1)), some (.inl (v5 + 1))]) ⟨rfl, rfl, rfl, rfl, rfl, trivial⟩ ?_
        exact ih (v4 + 1) (v5 + 1) N2 (z_upe c39 (by omega) hm)
def f_X4_punch (p1 : Int32) (p2 : Int32) (p3 : Int32) (M : Mem) : ((Int32 ⊕ String) × Mem) :=
  if (f_X4_isBlockOfFile p1 p2) then if (f_X4_isBlock p3) then if p2 ≤ p3 then zlet (l_X4_punch_36 p1 p3 (((p3 : Int32).toInt + 1 - (p2 : Int32).toInt).toNat + 1) 0 p2 M) (fun s3 =>
        (.inl s3.1, s3.2.2))
      else (.inr "java/lang/IllegalArgumentException", M)
    else (.inr "java/lang/IllegalArgumentException", M)
  else (.inr "java/lang/IllegalArgumentException", M)
set_option maxRecDepth 100000 in
set_option maxHeartbeats 4000000 in
theorem k_X4_punch (q : ZQ) (hq : q.1.stackTraces = false) (p1 : Int32) (p2 : Int32) (p3 : Int32) (M : Mem) : Zc (zgX q) mX4_punch 1 6 [.inr 0, .inl p1, .inl p2, .inl p3] M (xIM (f_X4_punch p1 p2 p3 M)) := by
  refine Zc.of (by decide) zi_X4_punch.1 (Nat.le_of_ble_eq_true rfl) rfl ?_
  show Zg _ _ _ _ _ _ (zlet (f_X4_punch p1 p2 p3 M) xIM) _ _ _ _
  unfold f_X4_punch
  refine zg_iload_n (x := p1) dX4_punch_0 rfl ?_
  refine zg_iload_n (x := p2) dX4_punch_1 rfl ?_
  refine zg_cS1 (As := [.inl p1, .inl p2]) (S := []) (v := bI ((f_X4_isBlockOfFile p1 p2))) dX4_punch_2 zk_X4_51 (k_X4_isBlockOfFile q p1 p2 M) rfl ⟨by decide, by decide⟩ ⟨by decide, by decide⟩ rfl (Nat.le_of_ble_eq_true rfl) ?_
  refine zg_st (pc' := 5) (L' := [some (.inr 0), some (.inl p1), some (.inl p2), some (.inl p3), none, none]) (S' := [.inl (bI ((f_X4_isBlockOfFile p1 p2)))]) (M' := M) rfl rfl rfl rfl ?_
  refine zg_ifbe (tgt := 20) dX4_punch_5 rfl (fun c5 => ?_) (fun c5 => ?_)
  · refine zg_st (pc' := 8) (L' := [some (.inr 0), some (.inl p1), some (.inl p2), some (.inl p3), none, none]) (S' := []) (M' := M) rfl rfl rfl rfl ?_
    refine zg_iload_n (x := p3) dX4_punch_8 rfl ?_
    refine zg_cS1 (As := [.inl p3]) (S := []) (v := bI ((f_X4_isBlock p3))) dX4_punch_9 zk_X4_73 (k_X4_isBlock q p3 M) rfl ⟨by decide, by decide⟩ ⟨by decide, by decide⟩ rfl (Nat.le_of_ble_eq_true rfl) ?_
    refine zg_st (pc' := 12) (L' := [some (.inr 0), some (.inl p1), some (.inl p2), some (.inl p3), none, none]) (S' := [.inl (bI ((f_X4_isBlock p3)))]) (M' := M) rfl rfl rfl rfl ?_
    refine zg_ifbe (tgt := 20) dX4_punch_12 rfl (fun c12 => ?_) (fun c12 => ?_)
    · refine zg_st (pc' := 15) (L' := [some (.inr 0), some (.inl p1), some (.inl p2), some (.inl p3), none, none]) (S' := []) (M' := M) rfl rfl rfl rfl ?_
      refine zg_iload_n (x := p3) dX4_punch_15 rfl ?_
      refine zg_iload_n (x := p2) dX4_punch_16 rfl ?_
      refine zg_icmpz (tgt := 30) dX4_punch_17 rfl rfl (fun c17 => ?_) (fun c17 => ?_)
      · refine zg_st (pc' := 30) (L' := [some (.inr 0), some (.inl p1), some (.inl p2), some (.inl p3), none, none]) (S' := []) (M' := M) rfl rfl rfl rfl ?_
        refine zg_iconst (v := 0) dX4_punch_30 rfl ?_
        refine zg_istore dX4_punch_31 (by decide) ?_
        refine zg_st (pc' := 33) (L' := [some (.inr 0), some (.inl p1), some (.inl p2), some (.inl p3), some (.inl 0), none]) (S' := []) (M' := M) rfl rfl rfl rfl ?_
        refine zg_iload_n (x := p2) dX4_punch_33 rfl ?_
        refine zg_istore dX4_punch_34 (by decide) ?_
        refine zg_st (pc' := 36) (L' := [some (.inr 0), some (.inl p1), some (.inl p2), some (.inl p3), some (.inl 0), some (.inl p2)]) (S' := []) (M' := M) rfl rfl rfl rfl ?_
        refine zg_asc ?_
        refine zg_drop (L' := [some (.inr 0), some (.inl p1), none, some (.inl p3), some (.inl 0), some (.inl p2)]) ⟨rfl, rfl, rfl, rfl, rfl, trivial⟩ ?_
        refine kl_X4_punch_36 q hq p1 p3  (by simp only [q_isFile, q_isBlock, q_isBlockOfFile, q_isMirror, q_isSideOfMirror, q_isCell, q_isPlaceNumber, q_isCellOnSide, q_isPointer, q_isBlockPointer, vp_in_iff, Int32.lt_iff_toInt_lt, Int32.le_iff_toInt_le, Int32.reduceToInt] at c5 c12 c17 ⊢; omega) (fun s3 => ?_) (((p3 : Int32).toInt + 1 - (p2 : Int32).toInt).toNat + 1) 0 p2 M (Nat.lt_succ_self _)
        try dsimp only [Sum.elim_inr]
        refine zg_st (pc' := 75) (L' := [some (.inr 0), some (.inl p1), none, some (.inl p3), some (.inl s3.1), some (.inl s3.2.1)]) (S' := []) (M' := s3.2.2) rfl rfl rfl rfl ?_
        refine zg_iload (x := s3.1) dX4_punch_75 rfl ?_
        exact zg_iret dX4_punch_77 rfl rfl ⟨by decide, by decide⟩ rfl
      · refine zg_st (pc' := 20) (L' := [some (.inr 0), some (.inl p1), some (.inl p2), some (.inl p3), none, none]) (S' := []) (M' := M) rfl rfl rfl rfl ?_
        exact zg_throw (text := "file, from or to is out of range") hq zt_55 rfl (by decide) dX4_punch_20 dX4_punch_23 dX4_punch_24 dX4_punch_26 dX4_punch_29 (by decide) (Nat.le_of_ble_eq_true rfl) (by decide) (by decide) rfl
    · refine zg_st (pc' := 20) (L' := [some (.inr 0), some (.inl p1), some (.inl p2), some (.inl p3), none, none]) (S' := []) (M' := M) rfl rfl rfl rfl ?_
      exact zg_throw (text := "file, from or to is out of range") hq zt_55 rfl (by decide) dX4_punch_20 dX4_punch_23 dX4_punch_24 dX4_punch_26 dX4_punch_29 (by decide) (Nat.le_of_ble_eq_true rfl) (by decide) (by decide) rfl
  · refine zg_st (pc' := 20) (L' := [some (.inr 0), some (.inl p1), some (.inl p2), some (.inl p3), none, none]) (S' := []) (M' := M) rfl rfl rfl rfl ?_
    exact zg_throw (text := "file, from or to is out of range") hq zt_55 rfl (by decide) dX4_punch_20 dX4_punch_23 dX4_punch_24 dX4_punch_26 dX4_punch_29 (by decide) (Nat.le_of_ble_eq_true rfl) (by decide) (by decide) rfl
theorem dX4_setCopies_0 : decode cX4_setCopies 0 = .ok (.iload_n 1, 1) := by decide +kernel
theorem dX4_setCopies_1 : decode cX4_setCopies 1 = .ok (.invokestatic 79, 3) := by decide +kernel
theorem dX4_setCopies_4 : decode cX4_setCopies 4 = .ok (.ifCond .eq 13, 3) := by decide +kernel
theorem dX4_setCopies_7 : decode cX4_setCopies 7 = .ok (.iload_n 2, 1) := by decide +kernel
theorem dX4_setCopies_8 : decode cX4_setCopies 8 = .ok (.iconst 1, 1) := by decide +kernel
theorem dX4_setCopies_9 : decode cX4_setCopies 9 = .ok (.if_icmp .lt 8, 3) := by decide +kernel
theorem dX4_setCopies_12 : decode cX4_setCopies 12 = .ok (.iload_n 2, 1) := by decide +kernel
theorem dX4_setCopies_13 : decode cX4_setCopies 13 = .ok (.iconst 2, 1) := by decide +kernel
theorem dX4_setCopies_14 : decode cX4_setCopies 14 = .ok (.if_icmp .le 13, 3) := by decide +kernel
theorem dX4_setCopies_17 : decode cX4_setCopies 17 = .ok (.new 55, 3) := by decide +kernel
theorem dX4_setCopies_20 : decode cX4_setCopies 20 = .ok (.dup, 1) := by decide +kernel
theorem dX4_setCopies_21 : decode cX4_setCopies 21 = .ok (.ldc 82, 2) := by decide +kernel
theorem dX4_setCopies_23 : decode cX4_setCopies 23 = .ok (.invokespecial 59, 3) := by decide +kernel
theorem dX4_setCopies_26 : decode cX4_setCopies 26 = .ok (.athrow, 1) := by decide +kernel
theorem dX4_setCopies_27 : decode cX4_setCopies 27 = .ok (.aload_n 0, 1) := by decide +kernel
theorem dX4_setCopies_28 : decode cX4_setCopies 28 = .ok (.getfield 37, 3) := by decide +kernel
theorem dX4_setCopies_31 : decode cX4_setCopies 31 = .ok (.iload_n 1, 1) := by decide +kernel
theorem dX4_setCopies_32 : decode cX4_setCopies 32 = .ok (.iaload, 1) := by decide +kernel
theorem dX4_setCopies_33 : decode cX4_setCopies 33 = .ok (.istore_n 3, 1) := by decide +kernel
theorem dX4_setCopies_34 : decode cX4_setCopies 34 = .ok (.aload_n 0, 1) := by decide +kernel
theorem dX4_setCopies_35 : decode cX4_setCopies 35 = .ok (.getfield 37, 3) := by decide +kernel
theorem dX4_setCopies_38 : decode cX4_setCopies 38 = .ok (.iload_n 1, 1) := by decide +kernel
theorem dX4_setCopies_39 : decode cX4_setCopies 39 = .ok (.iload_n 2, 1) := by decide +kernel
theorem dX4_setCopies_40 : decode cX4_setCopies 40 = .ok (.iastore, 1) := by decide +kernel
theorem dX4_setCopies_41 : decode cX4_setCopies 41 = .ok (.iload_n 3, 1) := by decide +kernel
theorem dX4_setCopies_42 : decode cX4_setCopies 42 = .ok (.ireturn, 1) := by decide +kernel
def f_X4_setCopies (p1 : Int32) (p2 : Int32) (M : Mem) : ((Int32 ⊕ String) × Mem) :=
  if (f_X4_isFile p1) then if p2 < 1 then (.inr "java/lang/IllegalArgumentException", M)
    else if p2 ≤ 2 then (.inl (M 5 p1.toNatClampNeg), (mup M 5 p1.toNatClampNeg p2))
    else (.inr "java/lang/IllegalArgumentException", M)
  else (.inr "java/lang/IllegalArgumentException", M)
set_option maxRecDepth 100000 in
set_option maxHeartbeats 4000000 in
theorem k_X4_setCopies (q : ZQ) (hq : q.1.stackTraces = false) (p1 : Int32) (p2 : Int32) (M : Mem) : Zc (zgX q) mX4_setCopies 1 6 [.inr 0, .inl p1, .inl p2] M (xIM (f_X4_setCopies p1 p2 M)) := by
  refine Zc.of (by decide) zi_X4_setCopies.1 (Nat.le_of_ble_eq_true rfl) rfl ?_
  show Zg _ _ _ _ _ _ (zlet (f_X4_setCopies p1 p2 M) xIM) _ _ _ _
  unfold f_X4_setCopies
  refine zg_iload_n (x := p1) dX4_setCopies_0 rfl ?_
  refine zg_cS1 (As := [.inl p1]) (S := []) (v := bI ((f_X4_isFile p1))) dX4_setCopies_1 zk_X4_79 (k_X4_isFile q p1 M) rfl ⟨by decide, by decide⟩ ⟨by decide, by decide⟩ rfl (Nat.le_of_ble_eq_true rfl) ?_
  refine zg_st (pc' := 4) (L' := [some (.inr 0), some (.inl p1), some (.inl p2), none]) (S' := [.inl (bI ((f_X4_isFile p1)))]) (M' := M) rfl rfl rfl rfl ?_
  refine zg_ifbe (tgt := 17) dX4_setCopies_4 rfl (fun c4 => ?_) (fun c4 => ?_)
  · refine zg_st (pc' := 7) (L' := [some (.inr 0), some (.inl p1), some (.inl p2), none]) (S' := []) (M' := M) rfl rfl rfl rfl ?_
    refine zg_iload_n (x := p2) dX4_setCopies_7 rfl ?_
    refine zg_iconst (v := 1) dX4_setCopies_8 rfl ?_
    refine zg_icmpz (tgt := 17) dX4_setCopies_9 rfl rfl (fun c9 => ?_) (fun c9 => ?_)
    · refine zg_st (pc' := 17) (L' := [some (.inr 0), some (.inl p1), some (.inl p2), none]) (S' := []) (M' := M) rfl rfl rfl rfl ?_
      exact zg_throw (text := "file or copies is out of range") hq zt_55 rfl (by decide) dX4_setCopies_17 dX4_setCopies_20 dX4_setCopies_21 dX4_setCopies_23 dX4_setCopies_26 (by decide) (Nat.le_of_ble_eq_true rfl) (by decide) (by decide) rfl
    · refine zg_st (pc' := 12) (L' := [some (.inr 0), some (.inl p1), some (.inl p2), none]) (S' := []) (M' := M) rfl rfl rfl rfl ?_
      refine zg_iload_n (x := p2) dX4_setCopies_12 rfl ?_
      refine zg_iconst (v := 2) dX4_setCopies_13 rfl ?_
      refine zg_icmpz (tgt := 27) dX4_setCopies_14 rfl rfl (fun c14 => ?_) (fun c14 => ?_)
      · refine zg_st (pc' := 27) (L' := [some (.inr 0), some (.inl p1), some (.inl p2), none]) (S' := []) (M' := M) rfl rfl rfl rfl ?_
        refine zg_aload_n (x := 0) dX4_setCopies_27 rfl ?_
        refine zg_getf (v := .inr 5) dX4_setCopies_28 zf_X4_37 rfl rfl rfl ?_
        refine zg_iload_n (x := p1) dX4_setCopies_31 rfl ?_
        refine zg_iald dX4_setCopies_32 rfl (by simp only [q_isFile, q_isBlock, q_isBlockOfFile, q_isMirror, q_isSideOfMirror, q_isCell, q_isPlaceNumber, q_isCellOnSide, q_isPointer, q_isBlockPointer, vp_in_iff, Int32.lt_iff_toInt_lt, Int32.le_iff_toInt_le, Int32.reduceToInt] at c4 c9 c14 ⊢; omega) ?_
        refine zg_istore_n dX4_setCopies_33 (by decide) ?_
        refine zg_st (pc' := 34) (L' := [some (.inr 0), some (.inl p1), some (.inl p2), some (.inl (M 5 p1.toNatClampNeg))]) (S' := []) (M' := M) rfl rfl rfl rfl ?_
        refine zg_aload_n (x := 0) dX4_setCopies_34 rfl ?_
        refine zg_getf (v := .inr 5) dX4_setCopies_35 zf_X4_37 rfl rfl rfl ?_
        refine zg_iload_n (x := p1) dX4_setCopies_38 rfl ?_
        refine zg_iload_n (x := p2) dX4_setCopies_39 rfl ?_
        refine zg_iast dX4_setCopies_40 rfl (by simp only [q_isFile, q_isBlock, q_isBlockOfFile, q_isMirror, q_isSideOfMirror, q_isCell, q_isPlaceNumber, q_isCellOnSide, q_isPointer, q_isBlockPointer, vp_in_iff, Int32.lt_iff_toInt_lt, Int32.le_iff_toInt_le, Int32.reduceToInt] at c4 c9 c14 ⊢; omega) ?_
        refine zg_iload_n (x := (M 5 p1.toNatClampNeg)) dX4_setCopies_41 rfl ?_
        exact zg_iret dX4_setCopies_42 rfl rfl ⟨by decide, by decide⟩ rfl
      · refine zg_st (pc' := 17) (L' := [some (.inr 0), some (.inl p1), some (.inl p2), none]) (S' := []) (M' := M) rfl rfl rfl rfl ?_
        exact zg_throw (text := "file or copies is out of range") hq zt_55 rfl (by decide) dX4_setCopies_17 dX4_setCopies_20 dX4_setCopies_21 dX4_setCopies_23 dX4_setCopies_26 (by decide) (Nat.le_of_ble_eq_true rfl) (by decide) (by decide) rfl
  · refine zg_st (pc' := 17) (L' := [some (.inr 0), some (.inl p1), some (.inl p2), none]) (S' := []) (M' := M) rfl rfl rfl rfl ?_
    exact zg_throw (text := "file or copies is out of range") hq zt_55 rfl (by decide) dX4_setCopies_17 dX4_setCopies_20 dX4_setCopies_21 dX4_setCopies_23 dX4_setCopies_26 (by decide) (Nat.le_of_ble_eq_true rfl) (by decide) (by decide) rfl
theorem dX4_read_0 : decode cX4_read 0 = .ok (.iload_n 1, 1) := by decide +kernel
theorem dX4_read_1 : decode cX4_read 1 = .ok (.iload_n 2, 1) := by decide +kernel
theorem dX4_read_2 : decode cX4_read 2 = .ok (.invokestatic 51, 3) := by decide +kernel
theorem dX4_read_5 : decode cX4_read 5 = .ok (.ifCond .ne 13, 3) := by decide +kernel
theorem dX4_read_8 : decode cX4_read 8 = .ok (.new 55, 3) := by decide +kernel
theorem dX4_read_11 : decode cX4_read 11 = .ok (.dup, 1) := by decide +kernel
theorem dX4_read_12 : decode cX4_read 12 = .ok (.ldc 84, 2) := by decide +kernel
theorem dX4_read_14 : decode cX4_read 14 = .ok (.invokespecial 59, 3) := by decide +kernel
theorem dX4_read_17 : decode cX4_read 17 = .ok (.athrow, 1) := by decide +kernel
theorem dX4_read_18 : decode cX4_read 18 = .ok (.iload_n 1, 1) := by decide +kernel
theorem dX4_read_19 : decode cX4_read 19 = .ok (.iload_n 2, 1) := by decide +kernel
theorem dX4_read_20 : decode cX4_read 20 = .ok (.invokestatic 66, 3) := by decide +kernel
theorem dX4_read_23 : decode cX4_read 23 = .ok (.istore_n 3, 1) := by decide +kernel
theorem dX4_read_24 : decode cX4_read 24 = .ok (.aload_n 0, 1) := by decide +kernel
theorem dX4_read_25 : decode cX4_read 25 = .ok (.getfield 26, 3) := by decide +kernel
theorem dX4_read_28 : decode cX4_read 28 = .ok (.iload_n 3, 1) := by decide +kernel
theorem dX4_read_29 : decode cX4_read 29 = .ok (.invokevirtual 86, 3) := by decide +kernel
theorem dX4_read_32 : decode cX4_read 32 = .ok (.ifCond .eq 12, 3) := by decide +kernel
theorem dX4_read_35 : decode cX4_read 35 = .ok (.aload_n 0, 1) := by decide +kernel
theorem dX4_read_36 : decode cX4_read 36 = .ok (.getfield 26, 3) := by decide +kernel
theorem dX4_read_39 : decode cX4_read 39 = .ok (.iload_n 3, 1) := by decide +kernel
theorem dX4_read_40 : decode cX4_read 40 = .ok (.invokevirtual 89, 3) := by decide +kernel
theorem dX4_read_43 : decode cX4_read 43 = .ok (.ireturn, 1) := by decide +kernel
theorem dX4_read_44 : decode cX4_read 44 = .ok (.iload_n 1, 1) := by decide +kernel
theorem dX4_read_45 : decode cX4_read 45 = .ok (.invokestatic 93, 3) := by decide +kernel
theorem dX4_read_48 : decode cX4_read 48 = .ok (.istore 4, 2) := by decide +kernel
theorem dX4_read_50 : decode cX4_read 50 = .ok (.aload_n 0, 1) := by decide +kernel
theorem dX4_read_51 : decode cX4_read 51 = .ok (.bipush 52, 2) := by decide +kernel
theorem dX4_read_53 : decode cX4_read 53 = .ok (.invokevirtual 96, 3) := by decide +kernel
theorem dX4_read_56 : decode cX4_read 56 = .ok (.ifCond .ne 20, 3) := by decide +kernel
theorem dX4_read_59 : decode cX4_read 59 = .ok (.aload_n 0, 1) := by decide +kernel
theorem dX4_read_60 : decode cX4_read 60 = .ok (.iload 4, 2) := by decide +kernel
theorem dX4_read_62 : decode cX4_read 62 = .ok (.invokevirtual 96, 3) := by decide +kernel
theorem dX4_read_65 : decode cX4_read 65 = .ok (.ifCond .ne 11, 3) := by decide +kernel
theorem dX4_read_68 : decode cX4_read 68 = .ok (.aload_n 0, 1) := by decide +kernel
theorem dX4_read_69 : decode cX4_read 69 = .ok (.iload_n 3, 1) := by decide +kernel
theorem dX4_read_70 : decode cX4_read 70 = .ok (.invokevirtual 96, 3) := by decide +kernel
theorem dX4_read_73 : decode cX4_read 73 = .ok (.ifCond .eq 13, 3) := by decide +kernel
theorem dX4_read_76 : decode cX4_read 76 = .ok (.new 99, 3) := by decide +kernel
theorem dX4_read_79 : decode cX4_read 79 = .ok (.dup, 1) := by decide +kernel
theorem dX4_read_80 : decode cX4_read 80 = .ok (.ldc 101, 2) := by decide +kernel
theorem dX4_read_82 : decode cX4_read 82 = .ok (.invokespecial 103, 3) := by decide +kernel
theorem dX4_read_85 : decode cX4_read 85 = .ok (.athrow, 1) := by decide +kernel
theorem dX4_read_86 : decode cX4_read 86 = .ok (.aload_n 0, 1) := by decide +kernel
theorem dX4_read_87 : decode cX4_read 87 = .ok (.dup, 1) := by decide +kernel
theorem dX4_read_88 : decode cX4_read 88 = .ok (.getfield 47, 3) := by decide +kernel
theorem dX4_read_91 : decode cX4_read 91 = .ok (.aload_n 0, 1) := by decide +kernel
theorem dX4_read_92 : decode cX4_read 92 = .ok (.bipush 52, 2) := by decide +kernel
theorem dX4_read_94 : decode cX4_read 94 = .ok (.invokevirtual 104, 3) := by decide +kernel
theorem dX4_read_97 : decode cX4_read 97 = .ok (.aload_n 0, 1) := by decide +kernel
theorem dX4_read_98 : decode cX4_read 98 = .ok (.iload 4, 2) := by decide +kernel
theorem dX4_read_100 : decode cX4_read 100 = .ok (.invokevirtual 104, 3) := by decide +kernel
theorem dX4_read_103 : decode cX4_read 103 = .ok (.iadd, 1) := by decide +kernel
theorem dX4_read_104 : decode cX4_read 104 = .ok (.aload_n 0, 1) := by decide +kernel
theorem dX4_read_105 : decode cX4_read 105 = .ok (.iload_n 3, 1) := by decide +kernel
theorem dX4_read_106 : decode cX4_read 106 = .ok (.invokevirtual 104, 3) := by decide +kernel
theorem dX4_read_109 : decode cX4_read 109 = .ok (.iadd, 1) := by decide +kernel
theorem dX4_read_110 : decode cX4_read 110 = .ok (.iadd, 1) := by decide +kernel
theorem dX4_read_111 : decode cX4_read 111 = .ok (.putfield 47, 3) := by decide +kernel
theorem dX4_read_114 : decode cX4_read 114 = .ok (.aload_n 0, 1) := by decide +kernel
theorem dX4_read_115 : decode cX4_read 115 = .ok (.getfield 19, 3) := by decide +kernel
theorem dX4_read_118 : decode cX4_read 118 = .ok (.iload_n 3, 1) := by decide +kernel
theorem dX4_read_119 : decode cX4_read 119 = .ok (.invokevirtual 107, 3) := by decide +kernel
theorem dX4_read_122 : decode cX4_read 122 = .ok (.ireturn, 1) := by decide +kernel
def f_X4_read (p1 : Int32) (p2 : Int32) (M : Mem) : ((Int32 ⊕ String) × Mem) :=
  if (f_X4_isBlockOfFile p1 p2) then if (f_X2_holds (f_X4_blockPointer p1 p2) M) then (.inl (f_X2_changeOf (f_X4_blockPointer p1 p2) M), M)
    else if (f_X4_isUnreadable 52 M) then (.inr "java/lang/IllegalStateException", M)
    else if (f_X4_isUnreadable (f_X4_filePointer p1) M) then (.inr "java/lang/IllegalStateException", M)
    else if (f_X4_isUnreadable (f_X4_blockPointer p1 p2) M) then (.inr "java/lang/IllegalStateException", M)
    else zlet (f_X4_healUpToGoodCell 52 M) (fun q1 =>
    zlet (f_X4_healUpToGoodCell (f_X4_filePointer p1) q1.2) (fun q2 =>
      zlet (f_X4_healUpToGoodCell (f_X4_blockPointer p1 p2) q2.2) (fun q3 =>
        (.inl (f_X3_valueOf (f_X4_blockPointer p1 p2) (mup q3.2 0 5 ((M 0 5) + ((q1.1 + q2.1) + q3.1)))), (mup q3.2 0 5 ((M 0 5) + ((q1.1 + q2.1) + q3.1)))))))
  else (.inr "java/lang/IllegalArgumentException", M)
set_option maxRecDepth 100000 in
set_option maxHeartbeats 4000000 in
theorem k_X4_read (q : ZQ) (hq : q.1.stackTraces = false) (p1 : Int32) (p2 : Int32) (M : Mem) : Zc (zgX q) mX4_read 1 6 [.inr 0, .inl p1, .inl p2] M (xIM (f_X4_read p1 p2 M)) := by
  refine Zc.of (by decide) zi_X4_read.1 (Nat.le_of_ble_eq_true rfl) rfl ?_
  show Zg _ _ _ _ _ _ (zlet (f_X4_read p1 p2 M) xIM) _ _ _ _
  unfold f_X4_read
  refine zg_iload_n (x := p1) dX4_read_0 rfl ?_
  refine zg_iload_n (x := p2) dX4_read_1 rfl ?_
  refine zg_cS1 (As := [.inl p1, .inl p2]) (S := []) (v := bI ((f_X4_isBlockOfFile p1 p2))) dX4_read_2 zk_X4_51 (k_X4_isBlockOfFile q p1 p2 M) rfl ⟨by decide, by decide⟩ ⟨by decide, by decide⟩ rfl (Nat.le_of_ble_eq_true rfl) ?_
  refine zg_st (pc' := 5) (L' := [some (.inr 0), some (.inl p1), some (.inl p2), none, none]) (S' := [.inl (bI ((f_X4_isBlockOfFile p1 p2)))]) (M' := M) rfl rfl rfl rfl ?_
  refine zg_ifbn (tgt := 18) dX4_read_5 rfl (fun c5 => ?_) (fun c5 => ?_)
  · refine zg_st (pc' := 18) (L' := [some (.inr 0), some (.inl p1), some (.inl p2), none, none]) (S' := []) (M' := M) rfl rfl rfl rfl ?_
    refine zg_iload_n (x := p1) dX4_read_18 rfl ?_
    refine zg_iload_n (x := p2) dX4_read_19 rfl ?_
    refine zg_cS1 (As := [.inl p1, .inl p2]) (S := []) (v := (f_X4_blockPointer p1 p2)) dX4_read_20 zk_X4_66 (k_X4_blockPointer q p1 p2 M) rfl ⟨by decide, by decide⟩ ⟨by decide, by decide⟩ rfl (Nat.le_of_ble_eq_true rfl) ?_
    refine zg_st (pc' := 23) (L' := [some (.inr 0), some (.inl p1), some (.inl p2), none, none]) (S' := [.inl (f_X4_blockPointer p1 p2)]) (M' := M) rfl rfl rfl rfl ?_
    refine zg_istore_n dX4_read_23 (by decide) ?_
    refine zg_st (pc' := 24) (L' := [some (.inr 0), some (.inl p1), some (.inl p2), some (.inl (f_X4_blockPointer p1 p2)), none]) (S' := []) (M' := M) rfl rfl rfl rfl ?_
    refine zg_aload_n (x := 0) dX4_read_24 rfl ?_
    refine zg_getf (v := .inr 3) dX4_read_25 zf_X4_26 rfl rfl rfl ?_
    refine zg_iload_n (x := (f_X4_blockPointer p1 p2)) dX4_read_28 rfl ?_
    refine zg_cV1 (As := [.inl (f_X4_blockPointer p1 p2)]) (S := []) (v := bI ((f_X2_holds (f_X4_blockPointer p1 p2) M))) dX4_read_29 zk_X4_86 (k_X2_holds q (f_X4_blockPointer p1 p2) M) rfl rfl ⟨by decide, by decide⟩ ⟨by decide, by decide⟩ rfl (Nat.le_of_ble_eq_true rfl) ?_
    refine zg_st (pc' := 32) (L' := [some (.inr 0), some (.inl p1), some (.inl p2), some (.inl (f_X4_blockPointer p1 p2)), none]) (S' := [.inl (bI ((f_X2_holds (f_X4_blockPointer p1 p2) M)))]) (M' := M) rfl rfl rfl rfl ?_
    refine zg_ifbe (tgt := 44) dX4_read_32 rfl (fun c32 => ?_) (fun c32 => ?_)
    · refine zg_st (pc' := 35) (L' := [some (.inr 0), some (.inl p1), some (.inl p2), some (.inl (f_X4_blockPointer p1 p2)), none]) (S' := []) (M' := M) rfl rfl rfl rfl ?_
      refine zg_aload_n (x := 0) dX4_read_35 rfl ?_
      refine zg_getf (v := .inr 3) dX4_read_36 zf_X4_26 rfl rfl rfl ?_
      refine zg_iload_n (x := (f_X4_blockPointer p1 p2)) dX4_read_39 rfl ?_
      refine zg_cV1 (As := [.inl (f_X4_blockPointer p1 p2)]) (S := []) (v := (f_X2_changeOf (f_X4_blockPointer p1 p2) M)) dX4_read_40 zk_X4_89 (k_X2_changeOf q (f_X4_blockPointer p1 p2) M) rfl rfl ⟨by decide, by decide⟩ ⟨by decide, by decide⟩ rfl (Nat.le_of_ble_eq_true rfl) ?_
      refine zg_st (pc' := 43) (L' := [some (.inr 0), some (.inl p1), some (.inl p2), some (.inl (f_X4_blockPointer p1 p2)), none]) (S' := [.inl (f_X2_changeOf (f_X4_blockPointer p1 p2) M)]) (M' := M) rfl rfl rfl rfl ?_
      exact zg_iret dX4_read_43 rfl rfl ⟨by decide, by decide⟩ rfl
    · refine zg_st (pc' := 44) (L' := [some (.inr 0), some (.inl p1), some (.inl p2), some (.inl (f_X4_blockPointer p1 p2)), none]) (S' := []) (M' := M) rfl rfl rfl rfl ?_
      refine zg_iload_n (x := p1) dX4_read_44 rfl ?_
      refine zg_cS1 (As := [.inl p1]) (S := []) (v := (f_X4_filePointer p1)) dX4_read_45 zk_X4_93 (k_X4_filePointer q p1 M) rfl ⟨by decide, by decide⟩ ⟨by decide, by decide⟩ rfl (Nat.le_of_ble_eq_true rfl) ?_
      refine zg_st (pc' := 48) (L' := [some (.inr 0), some (.inl p1), some (.inl p2), some (.inl (f_X4_blockPointer p1 p2)), none]) (S' := [.inl (f_X4_filePointer p1)]) (M' := M) rfl rfl rfl rfl ?_
      refine zg_istore dX4_read_48 (by decide) ?_
      refine zg_st (pc' := 50) (L' := [some (.inr 0), some (.inl p1), some (.inl p2), some (.inl (f_X4_blockPointer p1 p2)), some (.inl (f_X4_filePointer p1))]) (S' := []) (M' := M) rfl rfl rfl rfl ?_
      refine zg_aload_n (x := 0) dX4_read_50 rfl ?_
      refine zg_bipush (v := 52) dX4_read_51 rfl ?_
      refine zg_cV1 (As := [.inl 52]) (S := []) (v := bI ((f_X4_isUnreadable 52 M))) dX4_read_53 zk_X4_96 (k_X4_isUnreadable q 52 M) rfl rfl ⟨by decide, by decide⟩ ⟨by decide, by decide⟩ rfl (Nat.le_of_ble_eq_true rfl) ?_
      refine zg_st (pc' := 56) (L' := [some (.inr 0), some (.inl p1), some (.inl p2), some (.inl (f_X4_blockPointer p1 p2)), some (.inl (f_X4_filePointer p1))]) (S' := [.inl (bI ((f_X4_isUnreadable 52 M)))]) (M' := M) rfl rfl rfl rfl ?_
      refine zg_ifbn (tgt := 76) dX4_read_56 rfl (fun c56 => ?_) (fun c56 => ?_)
      · refine zg_st (pc' := 76) (L' := [some (.inr 0), some (.inl p1), some (.inl p2), some (.inl (f_X4_blockPointer p1 p2)), some (.inl (f_X4_filePointer p1))]) (S' := []) (M' := M) rfl rfl rfl rfl ?_
        exact zg_throw (text := "a pointer cannot be read") hq zt_99 rfl (by decide) dX4_read_76 dX4_read_79 dX4_read_80 dX4_read_82 dX4_read_85 (by decide) (Nat.le_of_ble_eq_true rfl) (by decide) (by decide) rfl
      · refine zg_st (pc' := 59) (L' := [some (.inr 0), some (.inl p1), some (.inl p2), some (.inl (f_X4_blockPointer p1 p2)), some (.inl (f_X4_filePointer p1))]) (S' := []) (M' := M) rfl rfl rfl rfl ?_
        refine zg_aload_n (x := 0) dX4_read_59 rfl ?_
        refine zg_iload (x := (f_X4_filePointer p1)) dX4_read_60 rfl ?_
        refine zg_cV1 (As := [.inl (f_X4_filePointer p1)]) (S := []) (v := bI ((f_X4_isUnreadable (f_X4_filePointer p1) M))) dX4_read_62 zk_X4_96 (k_X4_isUnreadable q (f_X4_filePointer p1) M) rfl rfl ⟨by decide, by decide⟩ ⟨by decide, by decide⟩ rfl (Nat.le_of_ble_eq_true rfl) ?_
        refine zg_st (pc' := 65) (L' := [some (.inr 0), some (.inl p1), some (.inl p2), some (.inl (f_X4_blockPointer p1 p2)), some (.inl (f_X4_filePointer p1))]) (S' := [.inl (bI ((f_X4_isUnreadable (f_X4_filePointer p1) M)))]) (M' := M) rfl rfl rfl rfl ?_
        refine zg_ifbn (tgt := 76) dX4_read_65 rfl (fun c65 => ?_) (fun c65 => ?_)
        · refine zg_st (pc' := 76) (L' := [some (.inr 0), some (.inl p1), some (.inl p2), some (.inl (f_X4_blockPointer p1 p2)), some (.inl (f_X4_filePointer p1))]) (S' := []) (M' := M) rfl rfl rfl rfl ?_
          exact zg_throw (text := "a pointer cannot be read") hq zt_99 rfl (by decide) dX4_read_76 dX4_read_79 dX4_read_80 dX4_read_82 dX4_read_85 (by decide) (Nat.le_of_ble_eq_true rfl) (by decide) (by decide) rfl
        · refine zg_st (pc' := 68) (L' := [some (.inr 0), some (.inl p1), some (.inl p2), some (.inl (f_X4_blockPointer p1 p2)), some (.inl (f_X4_filePointer p1))]) (S' := []) (M' := M) rfl rfl rfl rfl ?_
          refine zg_aload_n (x := 0) dX4_read_68 rfl ?_
          refine zg_iload_n (x := (f_X4_blockPointer p1 p2)) dX4_read_69 rfl ?_
          refine zg_cV1 (As := [.inl (f_X4_blockPointer p1 p2)]) (S := []) (v := bI ((f_X4_isUnreadable (f_X4_blockPointer p1 p2) M))) dX4_read_70 zk_X4_96 (k_X4_isUnreadable q (f_X4_blockPointer p1 p2) M) rfl rfl ⟨by decide, by decide⟩ ⟨by decide, by decide⟩ rfl (Nat.le_of_ble_eq_true rfl) ?_
          refine zg_st (pc' := 73) (L' := [some (.inr 0), some (.inl p1), some (.inl p2), some (.inl (f_X4_blockPointer p1 p2)), some (.inl (f_X4_filePointer p1))]) (S' := [.inl (bI ((f_X4_isUnreadable (f_X4_blockPointer p1 p2) M)))]) (M' := M) rfl rfl rfl rfl ?_
          refine zg_ifbe (tgt := 86) dX4_read_73 rfl (fun c73 => ?_) (fun c73 => ?_)
          · refine zg_st (pc' := 76) (L' := [some (.inr 0), some (.inl p1), some (.inl p2), some (.inl (f_X4_blockPointer p1 p2)), some (.inl (f_X4_filePointer p1))]) (S' := []) (M' := M) rfl rfl rfl rfl ?_
            exact zg_throw (text := "a pointer cannot be read") hq zt_99 rfl (by decide) dX4_read_76 dX4_read_79 dX4_read_80 dX4_read_82 dX4_read_85 (by decide) (Nat.le_of_ble_eq_true rfl) (by decide) (by decide) rfl
          · refine zg_st (pc' := 86) (L' := [some (.inr 0), some (.inl p1), some (.inl p2), some (.inl (f_X4_blockPointer p1 p2)), some (.inl (f_X4_filePointer p1))]) (S' := []) (M' := M) rfl rfl rfl rfl ?_
            refine zg_aload_n (x := 0) dX4_read_86 rfl ?_
            refine zg_dup dX4_read_87 ?_
            refine zg_getf (v := .inl (M 0 5)) dX4_read_88 zf_X4_47 rfl rfl rfl ?_
            refine zg_aload_n (x := 0) dX4_read_91 rfl ?_
            refine zg_bipush (v := 52) dX4_read_92 rfl ?_
            refine zg_cVIM (As := [.inl 52]) (S := [.inl (M 0 5), .inr 0]) dX4_read_94 zk_X4_104 (k_X4_healUpToGoodCell q 52 M) rfl rfl ⟨by decide, by decide⟩ ⟨by decide, by decide⟩ rfl (Nat.le_of_ble_eq_true rfl) (fun q1 e_q1 => ?_)
            try dsimp only
            refine zg_st (pc' := 97) (L' := [some (.inr 0), some (.inl p1), some (.inl p2), some (.inl (f_X4_blockPointer p1 p2)), some (.inl (f_X4_filePointer p1))]) (S' := [.inl q1.1, .inl (M 0 5), .inr 0]) (M' := q1.2) rfl rfl rfl rfl ?_
            refine zg_aload_n (x := 0) dX4_read_97 rfl ?_
            refine zg_iload (x := (f_X4_filePointer p1)) dX4_read_98 rfl ?_
            refine zg_cVIM (As := [.inl (f_X4_filePointer p1)]) (S := [.inl q1.1, .inl (M 0 5), .inr 0]) dX4_read_100 zk_X4_104 (k_X4_healUpToGoodCell q (f_X4_filePointer p1) q1.2) rfl rfl ⟨by decide, by decide⟩ ⟨by decide, by decide⟩ rfl (Nat.le_of_ble_eq_true rfl) (fun q2 e_q2 => ?_)
            try dsimp only
            refine zg_st (pc' := 103) (L' := [some (.inr 0), some (.inl p1), some (.inl p2), some (.inl (f_X4_blockPointer p1 p2)), some (.inl (f_X4_filePointer p1))]) (S' := [.inl q2.1, .inl q1.1, .inl (M 0 5), .inr 0]) (M' := q2.2) rfl rfl rfl rfl ?_
            refine zg_iadd dX4_read_103 ?_
            refine zg_aload_n (x := 0) dX4_read_104 rfl ?_
            refine zg_iload_n (x := (f_X4_blockPointer p1 p2)) dX4_read_105 rfl ?_
            refine zg_cVIM (As := [.inl (f_X4_blockPointer p1 p2)]) (S := [.inl (q1.1 + q2.1), .inl (M 0 5), .inr 0]) dX4_read_106 zk_X4_104 (k_X4_healUpToGoodCell q (f_X4_blockPointer p1 p2) q2.2) rfl rfl ⟨by decide, by decide⟩ ⟨by decide, by decide⟩ rfl (Nat.le_of_ble_eq_true rfl) (fun q3 e_q3 => ?_)
            try dsimp only
            refine zg_st (pc' := 109) (L' := [some (.inr 0), some (.inl p1), some (.inl p2), some (.inl (f_X4_blockPointer p1 p2)), some (.inl (f_X4_filePointer p1))]) (S' := [.inl q3.1, .inl (q1.1 + q2.1), .inl (M 0 5), .inr 0]) (M' := q3.2) rfl rfl rfl rfl ?_
            refine zg_iadd dX4_read_109 ?_
            refine zg_iadd dX4_read_110 ?_
            refine zg_putf dX4_read_111 zp_X4_47 rfl rfl ?_
            refine zg_aload_n (x := 0) dX4_read_114 rfl ?_
            refine zg_getf (v := .inr 2) dX4_read_115 zf_X4_19 rfl rfl rfl ?_
            refine zg_iload_n (x := (f_X4_blockPointer p1 p2)) dX4_read_118 rfl ?_
            refine zg_cV1 (As := [.inl (f_X4_blockPointer p1 p2)]) (S := []) (v := (f_X3_valueOf (f_X4_blockPointer p1 p2) (mup q3.2 0 5 ((M 0 5) + ((q1.1 + q2.1) + q3.1))))) dX4_read_119 zk_X4_107 (k_X3_valueOf q (f_X4_blockPointer p1 p2) (mup q3.2 0 5 ((M 0 5) + ((q1.1 + q2.1) + q3.1)))) rfl rfl ⟨by decide, by decide⟩ ⟨by decide, by decide⟩ rfl (Nat.le_of_ble_eq_true rfl) ?_
            refine zg_st (pc' := 122) (L' := [some (.inr 0), some (.inl p1), some (.inl p2), some (.inl (f_X4_blockPointer p1 p2)), some (.inl (f_X4_filePointer p1))]) (S' := [.inl (f_X3_valueOf (f_X4_blockPointer p1 p2) (mup q3.2 0 5 ((M 0 5) + ((q1.1 + q2.1) + q3.1))))]) (M' := (mup q3.2 0 5 ((M 0 5) + ((q1.1 + q2.1) + q3.1)))) rfl rfl rfl rfl ?_
            exact zg_iret dX4_read_122 rfl rfl ⟨by decide, by decide⟩ rfl
  · refine zg_st (pc' := 8) (L' := [some (.inr 0), some (.inl p1), some (.inl p2), none, none]) (S' := []) (M' := M) rfl rfl rfl rfl ?_
    exact zg_throw (text := "file or block is out of range") hq zt_55 rfl (by decide) dX4_read_8 dX4_read_11 dX4_read_12 dX4_read_14 dX4_read_17 (by decide) (Nat.le_of_ble_eq_true rfl) (by decide) (by decide) rfl
theorem dX4_nextData_0 : decode cX4_nextData 0 = .ok (.iload_n 1, 1) := by decide +kernel
theorem dX4_nextData_1 : decode cX4_nextData 1 = .ok (.iload_n 2, 1) := by decide +kernel
theorem dX4_nextData_2 : decode cX4_nextData 2 = .ok (.invokestatic 51, 3) := by decide +kernel
theorem dX4_nextData_5 : decode cX4_nextData 5 = .ok (.ifCond .ne 13, 3) := by decide +kernel
theorem dX4_nextData_8 : decode cX4_nextData 8 = .ok (.new 55, 3) := by decide +kernel
theorem dX4_nextData_11 : decode cX4_nextData 11 = .ok (.dup, 1) := by decide +kernel
theorem dX4_nextData_12 : decode cX4_nextData 12 = .ok (.ldc 84, 2) := by decide +kernel
theorem dX4_nextData_14 : decode cX4_nextData 14 = .ok (.invokespecial 59, 3) := by decide +kernel
theorem dX4_nextData_17 : decode cX4_nextData 17 = .ok (.athrow, 1) := by decide +kernel
theorem dX4_nextData_18 : decode cX4_nextData 18 = .ok (.iload_n 2, 1) := by decide +kernel
theorem dX4_nextData_19 : decode cX4_nextData 19 = .ok (.istore_n 3, 1) := by decide +kernel
theorem dX4_nextData_20 : decode cX4_nextData 20 = .ok (.iload_n 3, 1) := by decide +kernel
theorem dX4_nextData_21 : decode cX4_nextData 21 = .ok (.bipush 12, 2) := by decide +kernel
theorem dX4_nextData_23 : decode cX4_nextData 23 = .ok (.if_icmp .ge 20, 3) := by decide +kernel
theorem dX4_nextData_26 : decode cX4_nextData 26 = .ok (.aload_n 0, 1) := by decide +kernel
theorem dX4_nextData_27 : decode cX4_nextData 27 = .ok (.iload_n 1, 1) := by decide +kernel
theorem dX4_nextData_28 : decode cX4_nextData 28 = .ok (.iload_n 3, 1) := by decide +kernel
theorem dX4_nextData_29 : decode cX4_nextData 29 = .ok (.invokevirtual 62, 3) := by decide +kernel
theorem dX4_nextData_32 : decode cX4_nextData 32 = .ok (.ifCond .eq 5, 3) := by decide +kernel
theorem dX4_nextData_35 : decode cX4_nextData 35 = .ok (.iload_n 3, 1) := by decide +kernel
theorem dX4_nextData_36 : decode cX4_nextData 36 = .ok (.ireturn, 1) := by decide +kernel
theorem dX4_nextData_37 : decode cX4_nextData 37 = .ok (.iinc 3 1, 3) := by decide +kernel
theorem dX4_nextData_40 : decode cX4_nextData 40 = .ok (.goto (-20), 3) := by decide +kernel
theorem dX4_nextData_43 : decode cX4_nextData 43 = .ok (.new 110, 3) := by decide +kernel
theorem dX4_nextData_46 : decode cX4_nextData 46 = .ok (.dup, 1) := by decide +kernel
theorem dX4_nextData_47 : decode cX4_nextData 47 = .ok (.ldc 112, 2) := by decide +kernel
theorem dX4_nextData_49 : decode cX4_nextData 49 = .ok (.invokespecial 114, 3) := by decide +kernel
theorem dX4_nextData_52 : decode cX4_nextData 52 = .ok (.athrow, 1) := by decide +kernel
def b_X4_nextData_20 (x1 : Int32) (M : Mem) (rec : Int32 → (Int32 ⊕ String) ⊕ (Int32)) (v3 : Int32) : (Int32 ⊕ String) ⊕ (Int32) :=
  if 12 ≤ v3 then .inr v3
  else if (f_X4_valueNow x1 v3 M) = 0 then rec (v3 + 1)
  else .inl (.inl v3)
def l_X4_nextData_20 (x1 : Int32) (M : Mem) : Nat → Int32 → (Int32 ⊕ String) ⊕ (Int32)
  | 0, v3 => .inr v3
  | n + 1, v3 => b_X4_nextData_20 x1 M (l_X4_nextData_20 x1 M n) v3
set_option maxRecDepth 100000 in
set_option maxHeartbeats 4000000 in
theorem kl_X4_nextData_20 (q : ZQ) (hq : q.1.stackTraces = false) (x1 : Int32) (M : Mem) {K : (Int32 ⊕ String) ⊕ (Int32) → ZR} (hret : ∀ r : (Int32 ⊕ String), K (.inl r) = (xI M) r) (hx : ∀ e : Int32, Zg (zgX q) mX4_nextData 1 6 0 0 (K (.inr e)) 43 [some (.inr 0), some (.inl x1), none, some (.inl e)] [] M) :
    ∀ (n : Nat) (v3 : Int32), ((12 : Int32).toInt - (v3 : Int32).toInt).toNat < n → Zg (zgX q) mX4_nextData 1 6 0 0 (zlet (l_X4_nextData_20 x1 M n v3) K) 20 [some (.inr 0), some (.inl x1), none, some (.inl v3)] [] M := by
  intro n
  induction n with
  | zero => intro v3 hm; exact absurd hm (Nat.not_lt_zero _)
  | succ n ih =>
    intro v3 hm
    show Zg _ _ _ _ _ _ (zlet (b_X4_nextData_20 x1 M (l_X4_nextData_20 x1 M n) v3) K) _ _ _ _
    unfold b_X4_nextData_20
    refine zg_iload_n (x := v3) dX4_nextData_20 rfl ?_
    refine zg_bipush (v := 12) dX4_nextData_21 rfl ?_
    refine zg_icmpz (tgt := 43) dX4_nextData_23 rfl rfl (fun c23 => ?_) (fun c23 => ?_)
    · refine zg_st (pc' := 43) (L' := [some (.inr 0), some (.inl x1), none, some (.inl v3)]) (S' := []) (M' := M) rfl rfl rfl rfl ?_
      refine zg_drop (L' := [some (.inr 0), some (.inl x1), none, some (.inl v3)]) ⟨rfl, rfl, rfl, trivial⟩ ?_
      exact hx v3
    · refine zg_st (pc' := 26) (L' := [some (.inr 0), some (.inl x1), none, some (.inl v3)]) (S' := []) (M' := M) rfl rfl rfl rfl ?_
      refine zg_aload_n (x := 0) dX4_nextData_26 rfl ?_
      refine zg_iload_n (x := x1) dX4_nextData_27 rfl ?_
      refine zg_iload_n (x := v3) dX4_nextData_28 rfl ?_
      refine zg_cV1 (As := [.inl x1, .inl v3]) (S := []) (v := (f_X4_valueNow x1 v3 M)) dX4_nextData_29 zk_X4_62 (k_X4_valueNow q x1 v3 M) rfl rfl ⟨by decide, by decide⟩ ⟨by decide, by decide⟩ rfl (Nat.le_of_ble_eq_true rfl) ?_
      refine zg_st (pc' := 32) (L' := [some (.inr 0), some (.inl x1), none, some (.inl v3)]) (S' := [.inl (f_X4_valueNow x1 v3 M)]) (M' := M) rfl rfl rfl rfl ?_
      refine zg_ifz (tgt := 37) dX4_nextData_32 rfl rfl (fun c32 => ?_) (fun c32 => ?_)
      · refine zg_st (pc' := 37) (L' := [some (.inr 0), some (.inl x1), none, some (.inl v3)]) (S' := []) (M' := M) rfl rfl rfl rfl ?_
        refine zg_iinc (v := (v3 + 1)) dX4_nextData_37 rfl (by decide) rfl ?_
        refine zg_st (pc' := 40) (L' := [some (.inr 0), some (.inl x1), none, some (.inl (v3 + 1))]) (S' := []) (M' := M) rfl rfl rfl rfl ?_
        refine zg_goto (tgt := 20) dX4_nextData_40 rfl ?_
        refine zg_st (pc' := 20) (L' := [some (.inr 0), some (.inl x1), none, some (.inl (v3 + 1))]) (S' := []) (M' := M) rfl rfl rfl rfl ?_
        refine zg_drop (L' := [some (.inr 0), some (.inl x1), none, some (.inl (v3 + 1))]) ⟨rfl, rfl, rfl, trivial⟩ ?_
        exact ih (v3 + 1) (z_up c23 hm)
      · refine zg_st (pc' := 35) (L' := [some (.inr 0), some (.inl x1), none, some (.inl v3)]) (S' := []) (M' := M) rfl rfl rfl rfl ?_
        refine zg_iload_n (x := v3) dX4_nextData_35 rfl ?_
        exact zg_iret dX4_nextData_36 rfl rfl ⟨by decide, by decide⟩ (hret _)
def f_X4_nextData (p1 : Int32) (p2 : Int32) (M : Mem) : (Int32 ⊕ String) :=
  if (f_X4_isBlockOfFile p1 p2) then zlet (l_X4_nextData_20 p1 M (((12 : Int32).toInt - (p2 : Int32).toInt).toNat + 1) p2) (fun s1 => Sum.elim (fun r => r) (fun e_s1 =>
    .inr "java/util/NoSuchElementException") s1)
  else .inr "java/lang/IllegalArgumentException"
set_option maxRecDepth 100000 in
set_option maxHeartbeats 4000000 in
theorem k_X4_nextData (q : ZQ) (hq : q.1.stackTraces = false) (p1 : Int32) (p2 : Int32) (M : Mem) : Zc (zgX q) mX4_nextData 1 6 [.inr 0, .inl p1, .inl p2] M (xI M (f_X4_nextData p1 p2 M)) := by
  refine Zc.of (by decide) zi_X4_nextData.1 (Nat.le_of_ble_eq_true rfl) rfl ?_
  show Zg _ _ _ _ _ _ (zlet (f_X4_nextData p1 p2 M) (xI M)) _ _ _ _
  unfold f_X4_nextData
  refine zg_iload_n (x := p1) dX4_nextData_0 rfl ?_
  refine zg_iload_n (x := p2) dX4_nextData_1 rfl ?_
  refine zg_cS1 (As := [.inl p1, .inl p2]) (S := []) (v := bI ((f_X4_isBlockOfFile p1 p2))) dX4_nextData_2 zk_X4_51 (k_X4_isBlockOfFile q p1 p2 M) rfl ⟨by decide, by decide⟩ ⟨by decide, by decide⟩ rfl (Nat.le_of_ble_eq_true rfl) ?_
  refine zg_st (pc' := 5) (L' := [some (.inr 0), some (.inl p1), some (.inl p2), none]) (S' := [.inl (bI ((f_X4_isBlockOfFile p1 p2)))]) (M' := M) rfl rfl rfl rfl ?_
  refine zg_ifbn (tgt := 18) dX4_nextData_5 rfl (fun c5 => ?_) (fun c5 => ?_)
  · refine zg_st (pc' := 18) (L' := [some (.inr 0), some (.inl p1), some (.inl p2), none]) (S' := []) (M' := M) rfl rfl rfl rfl ?_
    refine zg_iload_n (x := p2) dX4_nextData_18 rfl ?_
    refine zg_istore_n dX4_nextData_19 (by decide) ?_
    refine zg_st (pc' := 20) (L' := [some (.inr 0), some (.inl p1), some (.inl p2), some (.inl p2)]) (S' := []) (M' := M) rfl rfl rfl rfl ?_
    refine zg_asc ?_
    refine zg_drop (L' := [some (.inr 0), some (.inl p1), none, some (.inl p2)]) ⟨rfl, rfl, rfl, trivial⟩ ?_
    refine kl_X4_nextData_20 q hq p1 M ?_ (fun e_s1 => ?_) (((12 : Int32).toInt - (p2 : Int32).toInt).toNat + 1) p2 (Nat.lt_succ_self _)
    · exact fun r => rfl
    try dsimp only [Sum.elim_inr]
    refine zg_st (pc' := 43) (L' := [some (.inr 0), some (.inl p1), none, some (.inl e_s1)]) (S' := []) (M' := M) rfl rfl rfl rfl ?_
    exact zg_throwN (text := "all blocks from this one on are holes") hq rfl (by decide) dX4_nextData_43 dX4_nextData_46 dX4_nextData_47 dX4_nextData_49 dX4_nextData_52 (by decide) (Nat.le_of_ble_eq_true rfl) (by decide) (by decide) rfl
  · refine zg_st (pc' := 8) (L' := [some (.inr 0), some (.inl p1), some (.inl p2), none]) (S' := []) (M' := M) rfl rfl rfl rfl ?_
    exact zg_throw (text := "file or block is out of range") hq zt_55 rfl (by decide) dX4_nextData_8 dX4_nextData_11 dX4_nextData_12 dX4_nextData_14 dX4_nextData_17 (by decide) (Nat.le_of_ble_eq_true rfl) (by decide) (by decide) rfl
theorem dX4_nextHole_0 : decode cX4_nextHole 0 = .ok (.iload_n 1, 1) := by decide +kernel
theorem dX4_nextHole_1 : decode cX4_nextHole 1 = .ok (.iload_n 2, 1) := by decide +kernel
theorem dX4_nextHole_2 : decode cX4_nextHole 2 = .ok (.invokestatic 51, 3) := by decide +kernel
theorem dX4_nextHole_5 : decode cX4_nextHole 5 = .ok (.ifCond .ne 13, 3) := by decide +kernel
theorem dX4_nextHole_8 : decode cX4_nextHole 8 = .ok (.new 55, 3) := by decide +kernel
theorem dX4_nextHole_11 : decode cX4_nextHole 11 = .ok (.dup, 1) := by decide +kernel
theorem dX4_nextHole_12 : decode cX4_nextHole 12 = .ok (.ldc 84, 2) := by decide +kernel
theorem dX4_nextHole_14 : decode cX4_nextHole 14 = .ok (.invokespecial 59, 3) := by decide +kernel
theorem dX4_nextHole_17 : decode cX4_nextHole 17 = .ok (.athrow, 1) := by decide +kernel
theorem dX4_nextHole_18 : decode cX4_nextHole 18 = .ok (.iload_n 2, 1) := by decide +kernel
theorem dX4_nextHole_19 : decode cX4_nextHole 19 = .ok (.istore_n 3, 1) := by decide +kernel
theorem dX4_nextHole_20 : decode cX4_nextHole 20 = .ok (.iload_n 3, 1) := by decide +kernel
theorem dX4_nextHole_21 : decode cX4_nextHole 21 = .ok (.bipush 12, 2) := by decide +kernel
theorem dX4_nextHole_23 : decode cX4_nextHole 23 = .ok (.if_icmp .ge 20, 3) := by decide +kernel
theorem dX4_nextHole_26 : decode cX4_nextHole 26 = .ok (.aload_n 0, 1) := by decide +kernel
theorem dX4_nextHole_27 : decode cX4_nextHole 27 = .ok (.iload_n 1, 1) := by decide +kernel
theorem dX4_nextHole_28 : decode cX4_nextHole 28 = .ok (.iload_n 3, 1) := by decide +kernel
theorem dX4_nextHole_29 : decode cX4_nextHole 29 = .ok (.invokevirtual 62, 3) := by decide +kernel
theorem dX4_nextHole_32 : decode cX4_nextHole 32 = .ok (.ifCond .ne 5, 3) := by decide +kernel
theorem dX4_nextHole_35 : decode cX4_nextHole 35 = .ok (.iload_n 3, 1) := by decide +kernel
theorem dX4_nextHole_36 : decode cX4_nextHole 36 = .ok (.ireturn, 1) := by decide +kernel
theorem dX4_nextHole_37 : decode cX4_nextHole 37 = .ok (.iinc 3 1, 3) := by decide +kernel
theorem dX4_nextHole_40 : decode cX4_nextHole 40 = .ok (.goto (-20), 3) := by decide +kernel
theorem dX4_nextHole_43 : decode cX4_nextHole 43 = .ok (.bipush 12, 2) := by decide +kernel
theorem dX4_nextHole_45 : decode cX4_nextHole 45 = .ok (.ireturn, 1) := by decide +kernel
def b_X4_nextHole_20 (x1 : Int32) (M : Mem) (rec : Int32 → (Int32 ⊕ String) ⊕ (Int32)) (v3 : Int32) : (Int32 ⊕ String) ⊕ (Int32) :=
  if 12 ≤ v3 then .inr v3
  else if ¬ (f_X4_valueNow x1 v3 M) = 0 then rec (v3 + 1)
  else .inl (.inl v3)
def l_X4_nextHole_20 (x1 : Int32) (M : Mem) : Nat → Int32 → (Int32 ⊕ String) ⊕ (Int32)
  | 0, v3 => .inr v3
  | n + 1, v3 => b_X4_nextHole_20 x1 M (l_X4_nextHole_20 x1 M n) v3
set_option maxRecDepth 100000 in
set_option maxHeartbeats 4000000 in
theorem kl_X4_nextHole_20 (q : ZQ) (hq : q.1.stackTraces = false) (x1 : Int32) (M : Mem) {K : (Int32 ⊕ String) ⊕ (Int32) → ZR} (hret : ∀ r : (Int32 ⊕ String), K (.inl r) = (xI M) r) (hx : ∀ e : Int32, Zg (zgX q) mX4_nextHole 1 6 0 0 (K (.inr e)) 43 [some (.inr 0), some (.inl x1), none, some (.inl e)] [] M) :
    ∀ (n : Nat) (v3 : Int32), ((12 : Int32).toInt - (v3 : Int32).toInt).toNat < n → Zg (zgX q) mX4_nextHole 1 6 0 0 (zlet (l_X4_nextHole_20 x1 M n v3) K) 20 [some (.inr 0), some (.inl x1), none, some (.inl v3)] [] M := by
  intro n
  induction n with
  | zero => intro v3 hm; exact absurd hm (Nat.not_lt_zero _)
  | succ n ih =>
    intro v3 hm
    show Zg _ _ _ _ _ _ (zlet (b_X4_nextHole_20 x1 M (l_X4_nextHole_20 x1 M n) v3) K) _ _ _ _
    unfold b_X4_nextHole_20
    refine zg_iload_n (x := v3) dX4_nextHole_20 rfl ?_
    refine zg_bipush (v := 12) dX4_nextHole_21 rfl ?_
    refine zg_icmpz (tgt := 43) dX4_nextHole_23 rfl rfl (fun c23 => ?_) (fun c23 => ?_)
    · refine zg_st (pc' := 43) (L' := [some (.inr 0), some (.inl x1), none, some (.inl v3)]) (S' := []) (M' := M) rfl rfl rfl rfl ?_
      refine zg_drop (L' := [some (.inr 0), some (.inl x1), none, some (.inl v3)]) ⟨rfl, rfl, rfl, trivial⟩ ?_
      exact hx v3
    · refine zg_st (pc' := 26) (L' := [some (.inr 0), some (.inl x1), none, some (.inl v3)]) (S' := []) (M' := M) rfl rfl rfl rfl ?_
      refine zg_aload_n (x := 0) dX4_nextHole_26 rfl ?_
      refine zg_iload_n (x := x1) dX4_nextHole_27 rfl ?_
      refine zg_iload_n (x := v3) dX4_nextHole_28 rfl ?_
      refine zg_cV1 (As := [.inl x1, .inl v3]) (S := []) (v := (f_X4_valueNow x1 v3 M)) dX4_nextHole_29 zk_X4_62 (k_X4_valueNow q x1 v3 M) rfl rfl ⟨by decide, by decide⟩ ⟨by decide, by decide⟩ rfl (Nat.le_of_ble_eq_true rfl) ?_
      refine zg_st (pc' := 32) (L' := [some (.inr 0), some (.inl x1), none, some (.inl v3)]) (S' := [.inl (f_X4_valueNow x1 v3 M)]) (M' := M) rfl rfl rfl rfl ?_
      refine zg_ifz (tgt := 37) dX4_nextHole_32 rfl rfl (fun c32 => ?_) (fun c32 => ?_)
      · refine zg_st (pc' := 37) (L' := [some (.inr 0), some (.inl x1), none, some (.inl v3)]) (S' := []) (M' := M) rfl rfl rfl rfl ?_
        refine zg_iinc (v := (v3 + 1)) dX4_nextHole_37 rfl (by decide) rfl ?_
        refine zg_st (pc' := 40) (L' := [some (.inr 0), some (.inl x1), none, some (.inl (v3 + 1))]) (S' := []) (M' := M) rfl rfl rfl rfl ?_
        refine zg_goto (tgt := 20) dX4_nextHole_40 rfl ?_
        refine zg_st (pc' := 20) (L' := [some (.inr 0), some (.inl x1), none, some (.inl (v3 + 1))]) (S' := []) (M' := M) rfl rfl rfl rfl ?_
        refine zg_drop (L' := [some (.inr 0), some (.inl x1), none, some (.inl (v3 + 1))]) ⟨rfl, rfl, rfl, trivial⟩ ?_
        exact ih (v3 + 1) (z_up c23 hm)
      · refine zg_st (pc' := 35) (L' := [some (.inr 0), some (.inl x1), none, some (.inl v3)]) (S' := []) (M' := M) rfl rfl rfl rfl ?_
        refine zg_iload_n (x := v3) dX4_nextHole_35 rfl ?_
        exact zg_iret dX4_nextHole_36 rfl rfl ⟨by decide, by decide⟩ (hret _)
def f_X4_nextHole (p1 : Int32) (p2 : Int32) (M : Mem) : (Int32 ⊕ String) :=
  if (f_X4_isBlockOfFile p1 p2) then zlet (l_X4_nextHole_20 p1 M (((12 : Int32).toInt - (p2 : Int32).toInt).toNat + 1) p2) (fun s1 => Sum.elim (fun r => r) (fun e_s1 =>
    .inl 12) s1)
  else .inr "java/lang/IllegalArgumentException"
set_option maxRecDepth 100000 in
set_option maxHeartbeats 4000000 in
theorem k_X4_nextHole (q : ZQ) (hq : q.1.stackTraces = false) (p1 : Int32) (p2 : Int32) (M : Mem) : Zc (zgX q) mX4_nextHole 1 6 [.inr 0, .inl p1, .inl p2] M (xI M (f_X4_nextHole p1 p2 M)) := by
  refine Zc.of (by decide) zi_X4_nextHole.1 (Nat.le_of_ble_eq_true rfl) rfl ?_
  show Zg _ _ _ _ _ _ (zlet (f_X4_nextHole p1 p2 M) (xI M)) _ _ _ _
  unfold f_X4_nextHole
  refine zg_iload_n (x := p1) dX4_nextHole_0 rfl ?_
  refine zg_iload_n (x := p2) dX4_nextHole_1 rfl ?_
  refine zg_cS1 (As := [.inl p1, .inl p2]) (S := []) (v := bI ((f_X4_isBlockOfFile p1 p2))) dX4_nextHole_2 zk_X4_51 (k_X4_isBlockOfFile q p1 p2 M) rfl ⟨by decide, by decide⟩ ⟨by decide, by decide⟩ rfl (Nat.le_of_ble_eq_true rfl) ?_
  refine zg_st (pc' := 5) (L' := [some (.inr 0), some (.inl p1), some (.inl p2), none]) (S' := [.inl (bI ((f_X4_isBlockOfFile p1 p2)))]) (M' := M) rfl rfl rfl rfl ?_
  refine zg_ifbn (tgt := 18) dX4_nextHole_5 rfl (fun c5 => ?_) (fun c5 => ?_)
  · refine zg_st (pc' := 18) (L' := [some (.inr 0), some (.inl p1), some (.inl p2), none]) (S' := []) (M' := M) rfl rfl rfl rfl ?_
    refine zg_iload_n (x := p2) dX4_nextHole_18 rfl ?_
    refine zg_istore_n dX4_nextHole_19 (by decide) ?_
    refine zg_st (pc' := 20) (L' := [some (.inr 0), some (.inl p1), some (.inl p2), some (.inl p2)]) (S' := []) (M' := M) rfl rfl rfl rfl ?_
    refine zg_asc ?_
    refine zg_drop (L' := [some (.inr 0), some (.inl p1), none, some (.inl p2)]) ⟨rfl, rfl, rfl, trivial⟩ ?_
    refine kl_X4_nextHole_20 q hq p1 M ?_ (fun e_s1 => ?_) (((12 : Int32).toInt - (p2 : Int32).toInt).toNat + 1) p2 (Nat.lt_succ_self _)
    · exact fun r => rfl
    try dsimp only [Sum.elim_inr]
    refine zg_st (pc' := 43) (L' := [some (.inr 0), some (.inl p1), none, some (.inl e_s1)]) (S' := []) (M' := M) rfl rfl rfl rfl ?_
    refine zg_bipush (v := 12) dX4_nextHole_43 rfl ?_
    exact zg_iret dX4_nextHole_45 rfl rfl ⟨by decide, by decide⟩ rfl
  · refine zg_st (pc' := 8) (L' := [some (.inr 0), some (.inl p1), some (.inl p2), none]) (S' := []) (M' := M) rfl rfl rfl rfl ?_
    exact zg_throw (text := "file or block is out of range") hq zt_55 rfl (by decide) dX4_nextHole_8 dX4_nextHole_11 dX4_nextHole_12 dX4_nextHole_14 dX4_nextHole_17 (by decide) (Nat.le_of_ble_eq_true rfl) (by decide) (by decide) rfl
theorem dX4_sync_0 : decode cX4_sync 0 = .ok (.iconst 0, 1) := by decide +kernel
theorem dX4_sync_1 : decode cX4_sync 1 = .ok (.istore_n 1, 1) := by decide +kernel
theorem dX4_sync_2 : decode cX4_sync 2 = .ok (.aload_n 0, 1) := by decide +kernel
theorem dX4_sync_3 : decode cX4_sync 3 = .ok (.getfield 26, 3) := by decide +kernel
theorem dX4_sync_6 : decode cX4_sync 6 = .ok (.invokevirtual 115, 3) := by decide +kernel
theorem dX4_sync_9 : decode cX4_sync 9 = .ok (.ifCond .le 29, 3) := by decide +kernel
theorem dX4_sync_12 : decode cX4_sync 12 = .ok (.aload_n 0, 1) := by decide +kernel
theorem dX4_sync_13 : decode cX4_sync 13 = .ok (.invokevirtual 119, 3) := by decide +kernel
theorem dX4_sync_16 : decode cX4_sync 16 = .ok (.ifCond .ne 13, 3) := by decide +kernel
theorem dX4_sync_19 : decode cX4_sync 19 = .ok (.new 99, 3) := by decide +kernel
theorem dX4_sync_22 : decode cX4_sync 22 = .ok (.dup, 1) := by decide +kernel
theorem dX4_sync_23 : decode cX4_sync 23 = .ok (.ldc 123, 2) := by decide +kernel
theorem dX4_sync_25 : decode cX4_sync 25 = .ok (.invokespecial 103, 3) := by decide +kernel
theorem dX4_sync_28 : decode cX4_sync 28 = .ok (.athrow, 1) := by decide +kernel
theorem dX4_sync_29 : decode cX4_sync 29 = .ok (.aload_n 0, 1) := by decide +kernel
theorem dX4_sync_30 : decode cX4_sync 30 = .ok (.invokevirtual 125, 3) := by decide +kernel
theorem dX4_sync_33 : decode cX4_sync 33 = .ok (.istore_n 1, 1) := by decide +kernel
theorem dX4_sync_34 : decode cX4_sync 34 = .ok (.aload_n 0, 1) := by decide +kernel
theorem dX4_sync_35 : decode cX4_sync 35 = .ok (.invokevirtual 128, 3) := by decide +kernel
theorem dX4_sync_38 : decode cX4_sync 38 = .ok (.aload_n 0, 1) := by decide +kernel
theorem dX4_sync_39 : decode cX4_sync 39 = .ok (.getfield 26, 3) := by decide +kernel
theorem dX4_sync_42 : decode cX4_sync 42 = .ok (.invokevirtual 131, 3) := by decide +kernel
theorem dX4_sync_45 : decode cX4_sync 45 = .ok (.iload_n 1, 1) := by decide +kernel
theorem dX4_sync_46 : decode cX4_sync 46 = .ok (.ireturn, 1) := by decide +kernel
def f_X4_sync (M : Mem) : ((Int32 ⊕ String) × Mem) :=
  if (f_X2_count M) ≤ 0 then zlet (f_X2_close M) (fun N1 =>
    (.inl 0, N1))
  else zlet (f_X4_choosePlaces M) (fun q2 =>
  if q2.1 then zlet (f_X4_writeChanges q2.2) (fun q3 =>
      zlet (f_X4_freeWhatIsNotPointedTo q3.2) (fun N4 =>
        zlet (f_X2_close N4) (fun N5 =>
          (.inl q3.1, N5))))
    else (.inr "java/lang/IllegalStateException", q2.2))
set_option maxRecDepth 100000 in
set_option maxHeartbeats 4000000 in
theorem k_X4_sync (q : ZQ) (hq : q.1.stackTraces = false) (M : Mem) : Zc (zgX q) mX4_sync 1 6 [.inr 0] M (xIM (f_X4_sync M)) := by
  refine Zc.of (by decide) zi_X4_sync.1 (Nat.le_of_ble_eq_true rfl) rfl ?_
  show Zg _ _ _ _ _ _ (zlet (f_X4_sync M) xIM) _ _ _ _
  unfold f_X4_sync
  refine zg_iconst (v := 0) dX4_sync_0 rfl ?_
  refine zg_istore_n dX4_sync_1 (by decide) ?_
  refine zg_st (pc' := 2) (L' := [some (.inr 0), some (.inl 0)]) (S' := []) (M' := M) rfl rfl rfl rfl ?_
  refine zg_aload_n (x := 0) dX4_sync_2 rfl ?_
  refine zg_getf (v := .inr 3) dX4_sync_3 zf_X4_26 rfl rfl rfl ?_
  refine zg_cV1 (As := []) (S := []) (v := (f_X2_count M)) dX4_sync_6 zk_X4_115 (k_X2_count q M) rfl rfl ⟨by decide, by decide⟩ ⟨by decide, by decide⟩ rfl (Nat.le_of_ble_eq_true rfl) ?_
  refine zg_st (pc' := 9) (L' := [some (.inr 0), some (.inl 0)]) (S' := [.inl (f_X2_count M)]) (M' := M) rfl rfl rfl rfl ?_
  refine zg_ifz (tgt := 38) dX4_sync_9 rfl rfl (fun c9 => ?_) (fun c9 => ?_)
  · refine zg_st (pc' := 38) (L' := [some (.inr 0), some (.inl 0)]) (S' := []) (M' := M) rfl rfl rfl rfl ?_
    refine zg_aload_n (x := 0) dX4_sync_38 rfl ?_
    refine zg_getf (v := .inr 3) dX4_sync_39 zf_X4_26 rfl rfl rfl ?_
    refine zg_cVV (As := []) (S := []) dX4_sync_42 zk_X4_131 (k_X2_close q M) rfl rfl ⟨by decide, by decide⟩ ⟨by decide, by decide⟩ rfl (Nat.le_of_ble_eq_true rfl) (fun N1 e_N1 => ?_)
    try dsimp only
    refine zg_st (pc' := 45) (L' := [some (.inr 0), some (.inl 0)]) (S' := []) (M' := N1) rfl rfl rfl rfl ?_
    refine zg_iload_n (x := 0) dX4_sync_45 rfl ?_
    exact zg_iret dX4_sync_46 rfl rfl ⟨by decide, by decide⟩ rfl
  · refine zg_st (pc' := 12) (L' := [some (.inr 0), some (.inl 0)]) (S' := []) (M' := M) rfl rfl rfl rfl ?_
    refine zg_aload_n (x := 0) dX4_sync_12 rfl ?_
    refine zg_cVBM (As := []) (S := []) dX4_sync_13 zk_X4_119 (k_X4_choosePlaces q M) rfl rfl ⟨by decide, by decide⟩ ⟨by decide, by decide⟩ rfl (Nat.le_of_ble_eq_true rfl) (fun q2 e_q2 => ?_)
    try dsimp only
    refine zg_st (pc' := 16) (L' := [some (.inr 0), some (.inl 0)]) (S' := [.inl (bI q2.1)]) (M' := q2.2) rfl rfl rfl rfl ?_
    refine zg_ifbn (tgt := 29) dX4_sync_16 rfl (fun c16 => ?_) (fun c16 => ?_)
    · refine zg_st (pc' := 29) (L' := [some (.inr 0), some (.inl 0)]) (S' := []) (M' := q2.2) rfl rfl rfl rfl ?_
      refine zg_aload_n (x := 0) dX4_sync_29 rfl ?_
      refine zg_cVIM (As := []) (S := []) dX4_sync_30 zk_X4_125 (k_X4_writeChanges q q2.2) rfl rfl ⟨by decide, by decide⟩ ⟨by decide, by decide⟩ rfl (Nat.le_of_ble_eq_true rfl) (fun q3 e_q3 => ?_)
      try dsimp only
      refine zg_st (pc' := 33) (L' := [some (.inr 0), some (.inl 0)]) (S' := [.inl q3.1]) (M' := q3.2) rfl rfl rfl rfl ?_
      refine zg_istore_n dX4_sync_33 (by decide) ?_
      refine zg_st (pc' := 34) (L' := [some (.inr 0), some (.inl q3.1)]) (S' := []) (M' := q3.2) rfl rfl rfl rfl ?_
      refine zg_aload_n (x := 0) dX4_sync_34 rfl ?_
      refine zg_cVV (As := []) (S := []) dX4_sync_35 zk_X4_128 (k_X4_freeWhatIsNotPointedTo q q3.2) rfl rfl ⟨by decide, by decide⟩ ⟨by decide, by decide⟩ rfl (Nat.le_of_ble_eq_true rfl) (fun N4 e_N4 => ?_)
      try dsimp only
      refine zg_st (pc' := 38) (L' := [some (.inr 0), some (.inl q3.1)]) (S' := []) (M' := N4) rfl rfl rfl rfl ?_
      refine zg_aload_n (x := 0) dX4_sync_38 rfl ?_
      refine zg_getf (v := .inr 3) dX4_sync_39 zf_X4_26 rfl rfl rfl ?_
      refine zg_cVV (As := []) (S := []) dX4_sync_42 zk_X4_131 (k_X2_close q N4) rfl rfl ⟨by decide, by decide⟩ ⟨by decide, by decide⟩ rfl (Nat.le_of_ble_eq_true rfl) (fun N5 e_N5 => ?_)
      try dsimp only
      refine zg_st (pc' := 45) (L' := [some (.inr 0), some (.inl q3.1)]) (S' := []) (M' := N5) rfl rfl rfl rfl ?_
      refine zg_iload_n (x := q3.1) dX4_sync_45 rfl ?_
      exact zg_iret dX4_sync_46 rfl rfl ⟨by decide, by decide⟩ rfl
    · refine zg_st (pc' := 19) (L' := [some (.inr 0), some (.inl 0)]) (S' := []) (M' := q2.2) rfl rfl rfl rfl ?_
      exact zg_throw (text := "there is no free cell for some place") hq zt_99 rfl (by decide) dX4_sync_19 dX4_sync_22 dX4_sync_23 dX4_sync_25 dX4_sync_28 (by decide) (Nat.le_of_ble_eq_true rfl) (by decide) (by decide) rfl
theorem dX4_abandon_0 : decode cX4_abandon 0 = .ok (.aload_n 0, 1) := by decide +kernel
theorem dX4_abandon_1 : decode cX4_abandon 1 = .ok (.getfield 26, 3) := by decide +kernel
theorem dX4_abandon_4 : decode cX4_abandon 4 = .ok (.invokevirtual 115, 3) := by decide +kernel
theorem dX4_abandon_7 : decode cX4_abandon 7 = .ok (.istore_n 1, 1) := by decide +kernel
theorem dX4_abandon_8 : decode cX4_abandon 8 = .ok (.aload_n 0, 1) := by decide +kernel
theorem dX4_abandon_9 : decode cX4_abandon 9 = .ok (.getfield 26, 3) := by decide +kernel
theorem dX4_abandon_12 : decode cX4_abandon 12 = .ok (.invokevirtual 134, 3) := by decide +kernel
theorem dX4_abandon_15 : decode cX4_abandon 15 = .ok (.iload_n 1, 1) := by decide +kernel
theorem dX4_abandon_16 : decode cX4_abandon 16 = .ok (.ireturn, 1) := by decide +kernel
def f_X4_abandon (M : Mem) : (Int32 × Mem) :=
  zlet (f_X2_dropChanges M) (fun N1 =>
  ((f_X2_count M), N1))
set_option maxRecDepth 100000 in
set_option maxHeartbeats 4000000 in
theorem k_X4_abandon (q : ZQ) (M : Mem) : Zc (zgX q) mX4_abandon 0 0 [.inr 0] M (wIM (f_X4_abandon M)) := by
  refine Zc.of (by decide) zi_X4_abandon.1 (Nat.le_of_ble_eq_true rfl) rfl ?_
  show Zg _ _ _ _ _ _ (zlet (f_X4_abandon M) wIM) _ _ _ _
  unfold f_X4_abandon
  refine zg_aload_n (x := 0) dX4_abandon_0 rfl ?_
  refine zg_getf (v := .inr 3) dX4_abandon_1 zf_X4_26 rfl rfl rfl ?_
  refine zg_cV1 (As := []) (S := []) (v := (f_X2_count M)) dX4_abandon_4 zk_X4_115 (k_X2_count q M) rfl rfl ⟨by decide, by decide⟩ ⟨by decide, by decide⟩ rfl (Nat.le_of_ble_eq_true rfl) ?_
  refine zg_st (pc' := 7) (L' := [some (.inr 0), none]) (S' := [.inl (f_X2_count M)]) (M' := M) rfl rfl rfl rfl ?_
  refine zg_istore_n dX4_abandon_7 (by decide) ?_
  refine zg_st (pc' := 8) (L' := [some (.inr 0), some (.inl (f_X2_count M))]) (S' := []) (M' := M) rfl rfl rfl rfl ?_
  refine zg_aload_n (x := 0) dX4_abandon_8 rfl ?_
  refine zg_getf (v := .inr 3) dX4_abandon_9 zf_X4_26 rfl rfl rfl ?_
  refine zg_cVV (As := []) (S := []) dX4_abandon_12 zk_X4_134 (k_X2_dropChanges q M) rfl rfl ⟨by decide, by decide⟩ ⟨by decide, by decide⟩ rfl (Nat.le_of_ble_eq_true rfl) (fun N1 e_N1 => ?_)
  try dsimp only
  refine zg_st (pc' := 15) (L' := [some (.inr 0), some (.inl (f_X2_count M))]) (S' := []) (M' := N1) rfl rfl rfl rfl ?_
  refine zg_iload_n (x := (f_X2_count M)) dX4_abandon_15 rfl ?_
  exact zg_iret dX4_abandon_16 rfl rfl ⟨by decide, by decide⟩ rfl
theorem dX4_group_0 : decode cX4_group 0 = .ok (.aload_n 0, 1) := by decide +kernel
theorem dX4_group_1 : decode cX4_group 1 = .ok (.getfield 26, 3) := by decide +kernel
theorem dX4_group_4 : decode cX4_group 4 = .ok (.getfield 137, 3) := by decide +kernel
theorem dX4_group_7 : decode cX4_group 7 = .ok (.ireturn, 1) := by decide +kernel
def f_X4_group (M : Mem) : Int32 :=
  (M 3 1)
set_option maxRecDepth 100000 in
set_option maxHeartbeats 4000000 in
theorem k_X4_group (q : ZQ) (M : Mem) : Zc (zgX q) mX4_group 0 0 [.inr 0] M (wI M (f_X4_group M)) := by
  refine Zc.of (by decide) zi_X4_group.1 (Nat.le_of_ble_eq_true rfl) rfl ?_
  show Zg _ _ _ _ _ _ (zlet (f_X4_group M) (wI M)) _ _ _ _
  unfold f_X4_group
  refine zg_aload_n (x := 0) dX4_group_0 rfl ?_
  refine zg_getf (v := .inr 3) dX4_group_1 zf_X4_26 rfl rfl rfl ?_
  refine zg_getf (v := .inl (M 3 1)) dX4_group_4 zf_X4_137 rfl rfl rfl ?_
  exact zg_iret dX4_group_7 rfl rfl ⟨by decide, by decide⟩ rfl
theorem dX4_buffered_0 : decode cX4_buffered 0 = .ok (.aload_n 0, 1) := by decide +kernel
theorem dX4_buffered_1 : decode cX4_buffered 1 = .ok (.getfield 26, 3) := by decide +kernel
theorem dX4_buffered_4 : decode cX4_buffered 4 = .ok (.invokevirtual 115, 3) := by decide +kernel
theorem dX4_buffered_7 : decode cX4_buffered 7 = .ok (.ireturn, 1) := by decide +kernel
def f_X4_buffered (M : Mem) : Int32 :=
  (f_X2_count M)
set_option maxRecDepth 100000 in
set_option maxHeartbeats 4000000 in
theorem k_X4_buffered (q : ZQ) (M : Mem) : Zc (zgX q) mX4_buffered 0 0 [.inr 0] M (wI M (f_X4_buffered M)) := by
  refine Zc.of (by decide) zi_X4_buffered.1 (Nat.le_of_ble_eq_true rfl) rfl ?_
  show Zg _ _ _ _ _ _ (zlet (f_X4_buffered M) (wI M)) _ _ _ _
  unfold f_X4_buffered
  refine zg_aload_n (x := 0) dX4_buffered_0 rfl ?_
  refine zg_getf (v := .inr 3) dX4_buffered_1 zf_X4_26 rfl rfl rfl ?_
  refine zg_cV1 (As := []) (S := []) (v := (f_X2_count M)) dX4_buffered_4 zk_X4_115 (k_X2_count q M) rfl rfl ⟨by decide, by decide⟩ ⟨by decide, by decide⟩ rfl (Nat.le_of_ble_eq_true rfl) ?_
  refine zg_st (pc' := 7) (L' := [some (.inr 0)]) (S' := [.inl (f_X2_count M)]) (M' := M) rfl rfl rfl rfl ?_
  exact zg_iret dX4_buffered_7 rfl rfl ⟨by decide, by decide⟩ rfl
theorem dX4_offline_0 : decode cX4_offline 0 = .ok (.iload_n 1, 1) := by decide +kernel
theorem dX4_offline_1 : decode cX4_offline 1 = .ok (.iload_n 2, 1) := by decide +kernel
theorem dX4_offline_2 : decode cX4_offline 2 = .ok (.invokestatic 140, 3) := by decide +kernel
theorem dX4_offline_5 : decode cX4_offline 5 = .ok (.ifCond .ne 13, 3) := by decide +kernel
theorem dX4_offline_8 : decode cX4_offline 8 = .ok (.new 55, 3) := by decide +kernel
theorem dX4_offline_11 : decode cX4_offline 11 = .ok (.dup, 1) := by decide +kernel
theorem dX4_offline_12 : decode cX4_offline 12 = .ok (.ldc 143, 2) := by decide +kernel
theorem dX4_offline_14 : decode cX4_offline 14 = .ok (.invokespecial 59, 3) := by decide +kernel
theorem dX4_offline_17 : decode cX4_offline 17 = .ok (.athrow, 1) := by decide +kernel
theorem dX4_offline_18 : decode cX4_offline 18 = .ok (.iconst 0, 1) := by decide +kernel
theorem dX4_offline_19 : decode cX4_offline 19 = .ok (.istore_n 3, 1) := by decide +kernel
theorem dX4_offline_20 : decode cX4_offline 20 = .ok (.iload_n 3, 1) := by decide +kernel
theorem dX4_offline_21 : decode cX4_offline 21 = .ok (.iconst 2, 1) := by decide +kernel
theorem dX4_offline_22 : decode cX4_offline 22 = .ok (.if_icmp .ge 31, 3) := by decide +kernel
theorem dX4_offline_25 : decode cX4_offline 25 = .ok (.aload_n 0, 1) := by decide +kernel
theorem dX4_offline_26 : decode cX4_offline 26 = .ok (.getfield 12, 3) := by decide +kernel
theorem dX4_offline_29 : decode cX4_offline 29 = .ok (.iload_n 1, 1) := by decide +kernel
theorem dX4_offline_30 : decode cX4_offline 30 = .ok (.iload_n 3, 1) := by decide +kernel
theorem dX4_offline_31 : decode cX4_offline 31 = .ok (.invokevirtual 145, 3) := by decide +kernel
theorem dX4_offline_34 : decode cX4_offline 34 = .ok (.ifCond .ne 13, 3) := by decide +kernel
theorem dX4_offline_37 : decode cX4_offline 37 = .ok (.new 99, 3) := by decide +kernel
theorem dX4_offline_40 : decode cX4_offline 40 = .ok (.dup, 1) := by decide +kernel
theorem dX4_offline_41 : decode cX4_offline 41 = .ok (.ldc 148, 2) := by decide +kernel
theorem dX4_offline_43 : decode cX4_offline 43 = .ok (.invokespecial 103, 3) := by decide +kernel
theorem dX4_offline_46 : decode cX4_offline 46 = .ok (.athrow, 1) := by decide +kernel
theorem dX4_offline_47 : decode cX4_offline 47 = .ok (.iinc 3 1, 3) := by decide +kernel
theorem dX4_offline_50 : decode cX4_offline 50 = .ok (.goto (-30), 3) := by decide +kernel
theorem dX4_offline_53 : decode cX4_offline 53 = .ok (.aload_n 0, 1) := by decide +kernel
theorem dX4_offline_54 : decode cX4_offline 54 = .ok (.getfield 12, 3) := by decide +kernel
theorem dX4_offline_57 : decode cX4_offline 57 = .ok (.iload_n 1, 1) := by decide +kernel
theorem dX4_offline_58 : decode cX4_offline 58 = .ok (.iload_n 2, 1) := by decide +kernel
theorem dX4_offline_59 : decode cX4_offline 59 = .ok (.aload_n 0, 1) := by decide +kernel
theorem dX4_offline_60 : decode cX4_offline 60 = .ok (.getfield 26, 3) := by decide +kernel
theorem dX4_offline_63 : decode cX4_offline 63 = .ok (.getfield 137, 3) := by decide +kernel
theorem dX4_offline_66 : decode cX4_offline 66 = .ok (.iconst 1, 1) := by decide +kernel
theorem dX4_offline_67 : decode cX4_offline 67 = .ok (.isub, 1) := by decide +kernel
theorem dX4_offline_68 : decode cX4_offline 68 = .ok (.invokevirtual 150, 3) := by decide +kernel
theorem dX4_offline_71 : decode cX4_offline 71 = .ok (.return_, 1) := by decide +kernel
def b_X4_offline_20 (x1 : Int32) (x2 : Int32) (M : Mem) (rec : Int32 → ((Unit ⊕ String) × Mem) ⊕ (Int32)) (v3 : Int32) : ((Unit ⊕ String) × Mem) ⊕ (Int32) :=
  if 2 ≤ v3 then .inr v3
  else if (f_X0_hasOnline x1 v3 M) then rec (v3 + 1)
  else .inl (.inr "java/lang/IllegalStateException", M)
def l_X4_offline_20 (x1 : Int32) (x2 : Int32) (M : Mem) : Nat → Int32 → ((Unit ⊕ String) × Mem) ⊕ (Int32)
  | 0, v3 => .inr v3
  | n + 1, v3 => b_X4_offline_20 x1 x2 M (l_X4_offline_20 x1 x2 M n) v3
set_option maxRecDepth 100000 in
set_option maxHeartbeats 4000000 in
theorem kl_X4_offline_20 (q : ZQ) (hq : q.1.stackTraces = false) (x1 : Int32) (x2 : Int32) (M : Mem) {K : ((Unit ⊕ String) × Mem) ⊕ (Int32) → ZR} (hret : ∀ r : ((Unit ⊕ String) × Mem), K (.inl r) = xV r) (hx : ∀ e : Int32, Zg (zgX q) mX4_offline 1 6 0 0 (K (.inr e)) 53 [some (.inr 0), some (.inl x1), some (.inl x2), some (.inl e)] [] M) :
    ∀ (n : Nat) (v3 : Int32), ((2 : Int32).toInt - (v3 : Int32).toInt).toNat < n → Zg (zgX q) mX4_offline 1 6 0 0 (zlet (l_X4_offline_20 x1 x2 M n v3) K) 20 [some (.inr 0), some (.inl x1), some (.inl x2), some (.inl v3)] [] M := by
  intro n
  induction n with
  | zero => intro v3 hm; exact absurd hm (Nat.not_lt_zero _)
  | succ n ih =>
    intro v3 hm
    show Zg _ _ _ _ _ _ (zlet (b_X4_offline_20 x1 x2 M (l_X4_offline_20 x1 x2 M n) v3) K) _ _ _ _
    unfold b_X4_offline_20
    refine zg_iload_n (x := v3) dX4_offline_20 rfl ?_
    refine zg_iconst (v := 2) dX4_offline_21 rfl ?_
    refine zg_icmpz (tgt := 53) dX4_offline_22 rfl rfl (fun c22 => ?_) (fun c22 => ?_)
    · refine zg_st (pc' := 53) (L' := [some (.inr 0), some (.inl x1), some (.inl x2), some (.inl v3)]) (S' := []) (M' := M) rfl rfl rfl rfl ?_
      refine zg_drop (L' := [some (.inr 0), some (.inl x1), some (.inl x2), some (.inl v3)]) ⟨rfl, rfl, rfl, rfl, trivial⟩ ?_
      exact hx v3
    · refine zg_st (pc' := 25) (L' := [some (.inr 0), some (.inl x1), some (.inl x2), some (.inl v3)]) (S' := []) (M' := M) rfl rfl rfl rfl ?_
      refine zg_aload_n (x := 0) dX4_offline_25 rfl ?_
      refine zg_getf (v := .inr 1) dX4_offline_26 zf_X4_12 rfl rfl rfl ?_
      refine zg_iload_n (x := x1) dX4_offline_29 rfl ?_
      refine zg_iload_n (x := v3) dX4_offline_30 rfl ?_
      refine zg_cV1 (As := [.inl x1, .inl v3]) (S := []) (v := bI ((f_X0_hasOnline x1 v3 M))) dX4_offline_31 zk_X4_145 (k_X0_hasOnline q x1 v3 M) rfl rfl ⟨by decide, by decide⟩ ⟨by decide, by decide⟩ rfl (Nat.le_of_ble_eq_true rfl) ?_
      refine zg_st (pc' := 34) (L' := [some (.inr 0), some (.inl x1), some (.inl x2), some (.inl v3)]) (S' := [.inl (bI ((f_X0_hasOnline x1 v3 M)))]) (M' := M) rfl rfl rfl rfl ?_
      refine zg_ifbn (tgt := 47) dX4_offline_34 rfl (fun c34 => ?_) (fun c34 => ?_)
      · refine zg_st (pc' := 47) (L' := [some (.inr 0), some (.inl x1), some (.inl x2), some (.inl v3)]) (S' := []) (M' := M) rfl rfl rfl rfl ?_
        refine zg_iinc (v := (v3 + 1)) dX4_offline_47 rfl (by decide) rfl ?_
        refine zg_st (pc' := 50) (L' := [some (.inr 0), some (.inl x1), some (.inl x2), some (.inl (v3 + 1))]) (S' := []) (M' := M) rfl rfl rfl rfl ?_
        refine zg_goto (tgt := 20) dX4_offline_50 rfl ?_
        refine zg_st (pc' := 20) (L' := [some (.inr 0), some (.inl x1), some (.inl x2), some (.inl (v3 + 1))]) (S' := []) (M' := M) rfl rfl rfl rfl ?_
        refine zg_drop (L' := [some (.inr 0), some (.inl x1), some (.inl x2), some (.inl (v3 + 1))]) ⟨rfl, rfl, rfl, rfl, trivial⟩ ?_
        exact ih (v3 + 1) (z_up c22 hm)
      · refine zg_st (pc' := 37) (L' := [some (.inr 0), some (.inl x1), some (.inl x2), some (.inl v3)]) (S' := []) (M' := M) rfl rfl rfl rfl ?_
        exact zg_throw (text := "a side of the mirror is offline") hq zt_99 rfl (by decide) dX4_offline_37 dX4_offline_40 dX4_offline_41 dX4_offline_43 dX4_offline_46 (by decide) (Nat.le_of_ble_eq_true rfl) (by decide) (by decide) (hret _)
def f_X4_offline (p1 : Int32) (p2 : Int32) (M : Mem) : ((Unit ⊕ String) × Mem) :=
  if (f_X4_isSideOfMirror p1 p2) then zlet (l_X4_offline_20 p1 p2 M 3 0) (fun s1 => Sum.elim (fun r => r) (fun e_s1 =>
    zlet (f_X0_takeOffline p1 p2 ((M 3 1) - 1) M) (fun N2 =>
      (.inl (), N2))) s1)
  else (.inr "java/lang/IllegalArgumentException", M)
set_option maxRecDepth 100000 in
set_option maxHeartbeats 4000000 in
theorem k_X4_offline (q : ZQ) (hq : q.1.stackTraces = false) (p1 : Int32) (p2 : Int32) (M : Mem) : Zc (zgX q) mX4_offline 1 6 [.inr 0, .inl p1, .inl p2] M (xV (f_X4_offline p1 p2 M)) := by
  refine Zc.of (by decide) zi_X4_offline.1 (Nat.le_of_ble_eq_true rfl) rfl ?_
  show Zg _ _ _ _ _ _ (zlet (f_X4_offline p1 p2 M) xV) _ _ _ _
  unfold f_X4_offline
  refine zg_iload_n (x := p1) dX4_offline_0 rfl ?_
  refine zg_iload_n (x := p2) dX4_offline_1 rfl ?_
  refine zg_cS1 (As := [.inl p1, .inl p2]) (S := []) (v := bI ((f_X4_isSideOfMirror p1 p2))) dX4_offline_2 zk_X4_140 (k_X4_isSideOfMirror q p1 p2 M) rfl ⟨by decide, by decide⟩ ⟨by decide, by decide⟩ rfl (Nat.le_of_ble_eq_true rfl) ?_
  refine zg_st (pc' := 5) (L' := [some (.inr 0), some (.inl p1), some (.inl p2), none]) (S' := [.inl (bI ((f_X4_isSideOfMirror p1 p2)))]) (M' := M) rfl rfl rfl rfl ?_
  refine zg_ifbn (tgt := 18) dX4_offline_5 rfl (fun c5 => ?_) (fun c5 => ?_)
  · refine zg_st (pc' := 18) (L' := [some (.inr 0), some (.inl p1), some (.inl p2), none]) (S' := []) (M' := M) rfl rfl rfl rfl ?_
    refine zg_iconst (v := 0) dX4_offline_18 rfl ?_
    refine zg_istore_n dX4_offline_19 (by decide) ?_
    refine zg_st (pc' := 20) (L' := [some (.inr 0), some (.inl p1), some (.inl p2), some (.inl 0)]) (S' := []) (M' := M) rfl rfl rfl rfl ?_
    refine zg_asc ?_
    refine zg_drop (L' := [some (.inr 0), some (.inl p1), some (.inl p2), some (.inl 0)]) ⟨rfl, rfl, rfl, rfl, trivial⟩ ?_
    refine kl_X4_offline_20 q hq p1 p2 M ?_ (fun e_s1 => ?_) 3 0 (by decide)
    · exact fun r => rfl
    try dsimp only [Sum.elim_inr]
    refine zg_st (pc' := 53) (L' := [some (.inr 0), some (.inl p1), some (.inl p2), some (.inl e_s1)]) (S' := []) (M' := M) rfl rfl rfl rfl ?_
    refine zg_aload_n (x := 0) dX4_offline_53 rfl ?_
    refine zg_getf (v := .inr 1) dX4_offline_54 zf_X4_12 rfl rfl rfl ?_
    refine zg_iload_n (x := p1) dX4_offline_57 rfl ?_
    refine zg_iload_n (x := p2) dX4_offline_58 rfl ?_
    refine zg_aload_n (x := 0) dX4_offline_59 rfl ?_
    refine zg_getf (v := .inr 3) dX4_offline_60 zf_X4_26 rfl rfl rfl ?_
    refine zg_getf (v := .inl (M 3 1)) dX4_offline_63 zf_X4_137 rfl rfl rfl ?_
    refine zg_iconst (v := 1) dX4_offline_66 rfl ?_
    refine zg_isub dX4_offline_67 ?_
    refine zg_cVV (As := [.inl p1, .inl p2, .inl ((M 3 1) - 1)]) (S := []) dX4_offline_68 zk_X4_150 (k_X0_takeOffline q p1 p2 ((M 3 1) - 1) M) rfl rfl ⟨by decide, by decide⟩ ⟨by decide, by decide⟩ rfl (Nat.le_of_ble_eq_true rfl) (fun N2 e_N2 => ?_)
    try dsimp only
    refine zg_st (pc' := 71) (L' := [some (.inr 0), some (.inl p1), some (.inl p2), some (.inl e_s1)]) (S' := []) (M' := N2) rfl rfl rfl rfl ?_
    exact zg_vret dX4_offline_71 rfl ⟨by decide, by decide⟩ rfl
  · refine zg_st (pc' := 8) (L' := [some (.inr 0), some (.inl p1), some (.inl p2), none]) (S' := []) (M' := M) rfl rfl rfl rfl ?_
    exact zg_throw (text := "mirror or side is out of range") hq zt_55 rfl (by decide) dX4_offline_8 dX4_offline_11 dX4_offline_12 dX4_offline_14 dX4_offline_17 (by decide) (Nat.le_of_ble_eq_true rfl) (by decide) (by decide) rfl
theorem dX4_online_0 : decode cX4_online 0 = .ok (.iload_n 1, 1) := by decide +kernel
theorem dX4_online_1 : decode cX4_online 1 = .ok (.iload_n 2, 1) := by decide +kernel
theorem dX4_online_2 : decode cX4_online 2 = .ok (.invokestatic 140, 3) := by decide +kernel
theorem dX4_online_5 : decode cX4_online 5 = .ok (.ifCond .ne 13, 3) := by decide +kernel
theorem dX4_online_8 : decode cX4_online 8 = .ok (.new 55, 3) := by decide +kernel
theorem dX4_online_11 : decode cX4_online 11 = .ok (.dup, 1) := by decide +kernel
theorem dX4_online_12 : decode cX4_online 12 = .ok (.ldc 143, 2) := by decide +kernel
theorem dX4_online_14 : decode cX4_online 14 = .ok (.invokespecial 59, 3) := by decide +kernel
theorem dX4_online_17 : decode cX4_online 17 = .ok (.athrow, 1) := by decide +kernel
theorem dX4_online_18 : decode cX4_online 18 = .ok (.aload_n 0, 1) := by decide +kernel
theorem dX4_online_19 : decode cX4_online 19 = .ok (.getfield 12, 3) := by decide +kernel
theorem dX4_online_22 : decode cX4_online 22 = .ok (.iload_n 1, 1) := by decide +kernel
theorem dX4_online_23 : decode cX4_online 23 = .ok (.iload_n 2, 1) := by decide +kernel
theorem dX4_online_24 : decode cX4_online 24 = .ok (.invokevirtual 145, 3) := by decide +kernel
theorem dX4_online_27 : decode cX4_online 27 = .ok (.ifCond .eq 13, 3) := by decide +kernel
theorem dX4_online_30 : decode cX4_online 30 = .ok (.new 99, 3) := by decide +kernel
theorem dX4_online_33 : decode cX4_online 33 = .ok (.dup, 1) := by decide +kernel
theorem dX4_online_34 : decode cX4_online 34 = .ok (.ldc 154, 2) := by decide +kernel
theorem dX4_online_36 : decode cX4_online 36 = .ok (.invokespecial 103, 3) := by decide +kernel
theorem dX4_online_39 : decode cX4_online 39 = .ok (.athrow, 1) := by decide +kernel
theorem dX4_online_40 : decode cX4_online 40 = .ok (.aload_n 0, 1) := by decide +kernel
theorem dX4_online_41 : decode cX4_online 41 = .ok (.iload_n 1, 1) := by decide +kernel
theorem dX4_online_42 : decode cX4_online 42 = .ok (.iload_n 2, 1) := by decide +kernel
theorem dX4_online_43 : decode cX4_online 43 = .ok (.invokevirtual 156, 3) := by decide +kernel
theorem dX4_online_46 : decode cX4_online 46 = .ok (.istore_n 3, 1) := by decide +kernel
theorem dX4_online_47 : decode cX4_online 47 = .ok (.aload_n 0, 1) := by decide +kernel
theorem dX4_online_48 : decode cX4_online 48 = .ok (.getfield 12, 3) := by decide +kernel
theorem dX4_online_51 : decode cX4_online 51 = .ok (.iload_n 1, 1) := by decide +kernel
theorem dX4_online_52 : decode cX4_online 52 = .ok (.iload_n 2, 1) := by decide +kernel
theorem dX4_online_53 : decode cX4_online 53 = .ok (.invokevirtual 159, 3) := by decide +kernel
theorem dX4_online_56 : decode cX4_online 56 = .ok (.iload_n 3, 1) := by decide +kernel
theorem dX4_online_57 : decode cX4_online 57 = .ok (.ireturn, 1) := by decide +kernel
def f_X4_online (p1 : Int32) (p2 : Int32) (M : Mem) : ((Int32 ⊕ String) × Mem) :=
  if (f_X4_isSideOfMirror p1 p2) then if (f_X0_hasOnline p1 p2 M) then (.inr "java/lang/IllegalStateException", M)
    else zlet (f_X4_resilver p1 p2 M) (fun q1 =>
    zlet (f_X0_bringOnline p1 p2 q1.2) (fun N2 =>
      (.inl q1.1, N2)))
  else (.inr "java/lang/IllegalArgumentException", M)
set_option maxRecDepth 100000 in
set_option maxHeartbeats 4000000 in
theorem k_X4_online (q : ZQ) (hq : q.1.stackTraces = false) (p1 : Int32) (p2 : Int32) (M : Mem) : Zc (zgX q) mX4_online 1 6 [.inr 0, .inl p1, .inl p2] M (xIM (f_X4_online p1 p2 M)) := by
  refine Zc.of (by decide) zi_X4_online.1 (Nat.le_of_ble_eq_true rfl) rfl ?_
  show Zg _ _ _ _ _ _ (zlet (f_X4_online p1 p2 M) xIM) _ _ _ _
  unfold f_X4_online
  refine zg_iload_n (x := p1) dX4_online_0 rfl ?_
  refine zg_iload_n (x := p2) dX4_online_1 rfl ?_
  refine zg_cS1 (As := [.inl p1, .inl p2]) (S := []) (v := bI ((f_X4_isSideOfMirror p1 p2))) dX4_online_2 zk_X4_140 (k_X4_isSideOfMirror q p1 p2 M) rfl ⟨by decide, by decide⟩ ⟨by decide, by decide⟩ rfl (Nat.le_of_ble_eq_true rfl) ?_
  refine zg_st (pc' := 5) (L' := [some (.inr 0), some (.inl p1), some (.inl p2), none]) (S' := [.inl (bI ((f_X4_isSideOfMirror p1 p2)))]) (M' := M) rfl rfl rfl rfl ?_
  refine zg_ifbn (tgt := 18) dX4_online_5 rfl (fun c5 => ?_) (fun c5 => ?_)
  · refine zg_st (pc' := 18) (L' := [some (.inr 0), some (.inl p1), some (.inl p2), none]) (S' := []) (M' := M) rfl rfl rfl rfl ?_
    refine zg_aload_n (x := 0) dX4_online_18 rfl ?_
    refine zg_getf (v := .inr 1) dX4_online_19 zf_X4_12 rfl rfl rfl ?_
    refine zg_iload_n (x := p1) dX4_online_22 rfl ?_
    refine zg_iload_n (x := p2) dX4_online_23 rfl ?_
    refine zg_cV1 (As := [.inl p1, .inl p2]) (S := []) (v := bI ((f_X0_hasOnline p1 p2 M))) dX4_online_24 zk_X4_145 (k_X0_hasOnline q p1 p2 M) rfl rfl ⟨by decide, by decide⟩ ⟨by decide, by decide⟩ rfl (Nat.le_of_ble_eq_true rfl) ?_
    refine zg_st (pc' := 27) (L' := [some (.inr 0), some (.inl p1), some (.inl p2), none]) (S' := [.inl (bI ((f_X0_hasOnline p1 p2 M)))]) (M' := M) rfl rfl rfl rfl ?_
    refine zg_ifbe (tgt := 40) dX4_online_27 rfl (fun c27 => ?_) (fun c27 => ?_)
    · refine zg_st (pc' := 30) (L' := [some (.inr 0), some (.inl p1), some (.inl p2), none]) (S' := []) (M' := M) rfl rfl rfl rfl ?_
      exact zg_throw (text := "the side is online") hq zt_99 rfl (by decide) dX4_online_30 dX4_online_33 dX4_online_34 dX4_online_36 dX4_online_39 (by decide) (Nat.le_of_ble_eq_true rfl) (by decide) (by decide) rfl
    · refine zg_st (pc' := 40) (L' := [some (.inr 0), some (.inl p1), some (.inl p2), none]) (S' := []) (M' := M) rfl rfl rfl rfl ?_
      refine zg_aload_n (x := 0) dX4_online_40 rfl ?_
      refine zg_iload_n (x := p1) dX4_online_41 rfl ?_
      refine zg_iload_n (x := p2) dX4_online_42 rfl ?_
      refine zg_cVIM (As := [.inl p1, .inl p2]) (S := []) dX4_online_43 zk_X4_156 (k_X4_resilver q p1 p2 M) rfl rfl ⟨by decide, by decide⟩ ⟨by decide, by decide⟩ rfl (Nat.le_of_ble_eq_true rfl) (fun q1 e_q1 => ?_)
      try dsimp only
      refine zg_st (pc' := 46) (L' := [some (.inr 0), some (.inl p1), some (.inl p2), none]) (S' := [.inl q1.1]) (M' := q1.2) rfl rfl rfl rfl ?_
      refine zg_istore_n dX4_online_46 (by decide) ?_
      refine zg_st (pc' := 47) (L' := [some (.inr 0), some (.inl p1), some (.inl p2), some (.inl q1.1)]) (S' := []) (M' := q1.2) rfl rfl rfl rfl ?_
      refine zg_aload_n (x := 0) dX4_online_47 rfl ?_
      refine zg_getf (v := .inr 1) dX4_online_48 zf_X4_12 rfl rfl rfl ?_
      refine zg_iload_n (x := p1) dX4_online_51 rfl ?_
      refine zg_iload_n (x := p2) dX4_online_52 rfl ?_
      refine zg_cVV (As := [.inl p1, .inl p2]) (S := []) dX4_online_53 zk_X4_159 (k_X0_bringOnline q p1 p2 q1.2) rfl rfl ⟨by decide, by decide⟩ ⟨by decide, by decide⟩ rfl (Nat.le_of_ble_eq_true rfl) (fun N2 e_N2 => ?_)
      try dsimp only
      refine zg_st (pc' := 56) (L' := [some (.inr 0), some (.inl p1), some (.inl p2), some (.inl q1.1)]) (S' := []) (M' := N2) rfl rfl rfl rfl ?_
      refine zg_iload_n (x := q1.1) dX4_online_56 rfl ?_
      exact zg_iret dX4_online_57 rfl rfl ⟨by decide, by decide⟩ rfl
  · refine zg_st (pc' := 8) (L' := [some (.inr 0), some (.inl p1), some (.inl p2), none]) (S' := []) (M' := M) rfl rfl rfl rfl ?_
    exact zg_throw (text := "mirror or side is out of range") hq zt_55 rfl (by decide) dX4_online_8 dX4_online_11 dX4_online_12 dX4_online_14 dX4_online_17 (by decide) (Nat.le_of_ble_eq_true rfl) (by decide) (by decide) rfl
theorem dX4_spoil_0 : decode cX4_spoil 0 = .ok (.iload_n 1, 1) := by decide +kernel
theorem dX4_spoil_1 : decode cX4_spoil 1 = .ok (.iload_n 2, 1) := by decide +kernel
theorem dX4_spoil_2 : decode cX4_spoil 2 = .ok (.invokestatic 140, 3) := by decide +kernel
theorem dX4_spoil_5 : decode cX4_spoil 5 = .ok (.ifCond .eq 10, 3) := by decide +kernel
theorem dX4_spoil_8 : decode cX4_spoil 8 = .ok (.iload_n 3, 1) := by decide +kernel
theorem dX4_spoil_9 : decode cX4_spoil 9 = .ok (.invokestatic 162, 3) := by decide +kernel
theorem dX4_spoil_12 : decode cX4_spoil 12 = .ok (.ifCond .ne 13, 3) := by decide +kernel
theorem dX4_spoil_15 : decode cX4_spoil 15 = .ok (.new 55, 3) := by decide +kernel
theorem dX4_spoil_18 : decode cX4_spoil 18 = .ok (.dup, 1) := by decide +kernel
theorem dX4_spoil_19 : decode cX4_spoil 19 = .ok (.ldc 165, 2) := by decide +kernel
theorem dX4_spoil_21 : decode cX4_spoil 21 = .ok (.invokespecial 59, 3) := by decide +kernel
theorem dX4_spoil_24 : decode cX4_spoil 24 = .ok (.athrow, 1) := by decide +kernel
theorem dX4_spoil_25 : decode cX4_spoil 25 = .ok (.iload_n 1, 1) := by decide +kernel
theorem dX4_spoil_26 : decode cX4_spoil 26 = .ok (.iload_n 3, 1) := by decide +kernel
theorem dX4_spoil_27 : decode cX4_spoil 27 = .ok (.invokestatic 167, 3) := by decide +kernel
theorem dX4_spoil_30 : decode cX4_spoil 30 = .ok (.istore 4, 2) := by decide +kernel
theorem dX4_spoil_32 : decode cX4_spoil 32 = .ok (.aload_n 0, 1) := by decide +kernel
theorem dX4_spoil_33 : decode cX4_spoil 33 = .ok (.getfield 12, 3) := by decide +kernel
theorem dX4_spoil_36 : decode cX4_spoil 36 = .ok (.iload_n 1, 1) := by decide +kernel
theorem dX4_spoil_37 : decode cX4_spoil 37 = .ok (.iload_n 2, 1) := by decide +kernel
theorem dX4_spoil_38 : decode cX4_spoil 38 = .ok (.invokevirtual 145, 3) := by decide +kernel
theorem dX4_spoil_41 : decode cX4_spoil 41 = .ok (.ifCond .eq 15, 3) := by decide +kernel
theorem dX4_spoil_44 : decode cX4_spoil 44 = .ok (.aload_n 0, 1) := by decide +kernel
theorem dX4_spoil_45 : decode cX4_spoil 45 = .ok (.getfield 12, 3) := by decide +kernel
theorem dX4_spoil_48 : decode cX4_spoil 48 = .ok (.iload 4, 2) := by decide +kernel
theorem dX4_spoil_50 : decode cX4_spoil 50 = .ok (.invokevirtual 170, 3) := by decide +kernel
theorem dX4_spoil_53 : decode cX4_spoil 53 = .ok (.ifCond .ne 13, 3) := by decide +kernel
theorem dX4_spoil_56 : decode cX4_spoil 56 = .ok (.new 99, 3) := by decide +kernel
theorem dX4_spoil_59 : decode cX4_spoil 59 = .ok (.dup, 1) := by decide +kernel
theorem dX4_spoil_60 : decode cX4_spoil 60 = .ok (.ldc 173, 2) := by decide +kernel
theorem dX4_spoil_62 : decode cX4_spoil 62 = .ok (.invokespecial 103, 3) := by decide +kernel
theorem dX4_spoil_65 : decode cX4_spoil 65 = .ok (.athrow, 1) := by decide +kernel
theorem dX4_spoil_66 : decode cX4_spoil 66 = .ok (.aload_n 0, 1) := by decide +kernel
theorem dX4_spoil_67 : decode cX4_spoil 67 = .ok (.getfield 12, 3) := by decide +kernel
theorem dX4_spoil_70 : decode cX4_spoil 70 = .ok (.iload 4, 2) := by decide +kernel
theorem dX4_spoil_72 : decode cX4_spoil 72 = .ok (.iload_n 2, 1) := by decide +kernel
theorem dX4_spoil_73 : decode cX4_spoil 73 = .ok (.invokevirtual 175, 3) := by decide +kernel
theorem dX4_spoil_76 : decode cX4_spoil 76 = .ok (.ifCond .ne 7, 3) := by decide +kernel
theorem dX4_spoil_79 : decode cX4_spoil 79 = .ok (.iconst 1, 1) := by decide +kernel
theorem dX4_spoil_80 : decode cX4_spoil 80 = .ok (.goto 4, 3) := by decide +kernel
theorem dX4_spoil_83 : decode cX4_spoil 83 = .ok (.iconst 0, 1) := by decide +kernel
theorem dX4_spoil_84 : decode cX4_spoil 84 = .ok (.istore 5, 2) := by decide +kernel
theorem dX4_spoil_86 : decode cX4_spoil 86 = .ok (.aload_n 0, 1) := by decide +kernel
theorem dX4_spoil_87 : decode cX4_spoil 87 = .ok (.getfield 12, 3) := by decide +kernel
theorem dX4_spoil_90 : decode cX4_spoil 90 = .ok (.iload 4, 2) := by decide +kernel
theorem dX4_spoil_92 : decode cX4_spoil 92 = .ok (.iload_n 2, 1) := by decide +kernel
theorem dX4_spoil_93 : decode cX4_spoil 93 = .ok (.iconst 1, 1) := by decide +kernel
theorem dX4_spoil_94 : decode cX4_spoil 94 = .ok (.invokevirtual 178, 3) := by decide +kernel
theorem dX4_spoil_97 : decode cX4_spoil 97 = .ok (.iload 5, 2) := by decide +kernel
theorem dX4_spoil_99 : decode cX4_spoil 99 = .ok (.ireturn, 1) := by decide +kernel
def f_X4_spoil (p1 : Int32) (p2 : Int32) (p3 : Int32) (M : Mem) : ((Bool ⊕ String) × Mem) :=
  if (f_X4_isSideOfMirror p1 p2) then if (f_X4_isCell p3) then if (f_X0_hasOnline p1 p2 M) then if (f_X0_isUsed (f_X4_placeNumber p1 p3) M) then if (f_X0_hasSpoilt (f_X4_placeNumber p1 p3) p2 M) then zlet (f_X0_mark (f_X4_placeNumber p1 p3) p2 true M) (fun N1 =>
            (.inl false, N1))
          else zlet (f_X0_mark (f_X4_placeNumber p1 p3) p2 true M) (fun N2 =>
          (.inl true, N2))
        else (.inr "java/lang/IllegalStateException", M)
      else (.inr "java/lang/IllegalStateException", M)
    else (.inr "java/lang/IllegalArgumentException", M)
  else (.inr "java/lang/IllegalArgumentException", M)
set_option maxRecDepth 100000 in
set_option maxHeartbeats 4000000 in
theorem k_X4_spoil (q : ZQ) (hq : q.1.stackTraces = false) (p1 : Int32) (p2 : Int32) (p3 : Int32) (M : Mem) : Zc (zgX q) mX4_spoil 1 6 [.inr 0, .inl p1, .inl p2, .inl p3] M (xBM (f_X4_spoil p1 p2 p3 M)) := by
  refine Zc.of (by decide) zi_X4_spoil.1 (Nat.le_of_ble_eq_true rfl) rfl ?_
  show Zg _ _ _ _ _ _ (zlet (f_X4_spoil p1 p2 p3 M) xBM) _ _ _ _
  unfold f_X4_spoil
  refine zg_iload_n (x := p1) dX4_spoil_0 rfl ?_
  refine zg_iload_n (x := p2) dX4_spoil_1 rfl ?_
  refine zg_cS1 (As := [.inl p1, .inl p2]) (S := []) (v := bI ((f_X4_isSideOfMirror p1 p2))) dX4_spoil_2 zk_X4_140 (k_X4_isSideOfMirror q p1 p2 M) rfl ⟨by decide, by decide⟩ ⟨by decide, by decide⟩ rfl (Nat.le_of_ble_eq_true rfl) ?_
  refine zg_st (pc' := 5) (L' := [some (.inr 0), some (.inl p1), some (.inl p2), some (.inl p3), none, none]) (S' := [.inl (bI ((f_X4_isSideOfMirror p1 p2)))]) (M' := M) rfl rfl rfl rfl ?_
  refine zg_ifbe (tgt := 15) dX4_spoil_5 rfl (fun c5 => ?_) (fun c5 => ?_)
  · refine zg_st (pc' := 8) (L' := [some (.inr 0), some (.inl p1), some (.inl p2), some (.inl p3), none, none]) (S' := []) (M' := M) rfl rfl rfl rfl ?_
    refine zg_iload_n (x := p3) dX4_spoil_8 rfl ?_
    refine zg_cS1 (As := [.inl p3]) (S := []) (v := bI ((f_X4_isCell p3))) dX4_spoil_9 zk_X4_162 (k_X4_isCell q p3 M) rfl ⟨by decide, by decide⟩ ⟨by decide, by decide⟩ rfl (Nat.le_of_ble_eq_true rfl) ?_
    refine zg_st (pc' := 12) (L' := [some (.inr 0), some (.inl p1), some (.inl p2), some (.inl p3), none, none]) (S' := [.inl (bI ((f_X4_isCell p3)))]) (M' := M) rfl rfl rfl rfl ?_
    refine zg_ifbn (tgt := 25) dX4_spoil_12 rfl (fun c12 => ?_) (fun c12 => ?_)
    · refine zg_st (pc' := 25) (L' := [some (.inr 0), some (.inl p1), some (.inl p2), some (.inl p3), none, none]) (S' := []) (M' := M) rfl rfl rfl rfl ?_
      refine zg_iload_n (x := p1) dX4_spoil_25 rfl ?_
      refine zg_iload_n (x := p3) dX4_spoil_26 rfl ?_
      refine zg_cS1 (As := [.inl p1, .inl p3]) (S := []) (v := (f_X4_placeNumber p1 p3)) dX4_spoil_27 zk_X4_167 (k_X4_placeNumber q p1 p3 M) rfl ⟨by decide, by decide⟩ ⟨by decide, by decide⟩ rfl (Nat.le_of_ble_eq_true rfl) ?_
      refine zg_st (pc' := 30) (L' := [some (.inr 0), some (.inl p1), some (.inl p2), some (.inl p3), none, none]) (S' := [.inl (f_X4_placeNumber p1 p3)]) (M' := M) rfl rfl rfl rfl ?_
      refine zg_istore dX4_spoil_30 (by decide) ?_
      refine zg_st (pc' := 32) (L' := [some (.inr 0), some (.inl p1), some (.inl p2), some (.inl p3), some (.inl (f_X4_placeNumber p1 p3)), none]) (S' := []) (M' := M) rfl rfl rfl rfl ?_
      refine zg_aload_n (x := 0) dX4_spoil_32 rfl ?_
      refine zg_getf (v := .inr 1) dX4_spoil_33 zf_X4_12 rfl rfl rfl ?_
      refine zg_iload_n (x := p1) dX4_spoil_36 rfl ?_
      refine zg_iload_n (x := p2) dX4_spoil_37 rfl ?_
      refine zg_cV1 (As := [.inl p1, .inl p2]) (S := []) (v := bI ((f_X0_hasOnline p1 p2 M))) dX4_spoil_38 zk_X4_145 (k_X0_hasOnline q p1 p2 M) rfl rfl ⟨by decide, by decide⟩ ⟨by decide, by decide⟩ rfl (Nat.le_of_ble_eq_true rfl) ?_
      refine zg_st (pc' := 41) (L' := [some (.inr 0), some (.inl p1), some (.inl p2), some (.inl p3), some (.inl (f_X4_placeNumber p1 p3)), none]) (S' := [.inl (bI ((f_X0_hasOnline p1 p2 M)))]) (M' := M) rfl rfl rfl rfl ?_
      refine zg_ifbe (tgt := 56) dX4_spoil_41 rfl (fun c41 => ?_) (fun c41 => ?_)
      · refine zg_st (pc' := 44) (L' := [some (.inr 0), some (.inl p1), some (.inl p2), some (.inl p3), some (.inl (f_X4_placeNumber p1 p3)), none]) (S' := []) (M' := M) rfl rfl rfl rfl ?_
        refine zg_aload_n (x := 0) dX4_spoil_44 rfl ?_
        refine zg_getf (v := .inr 1) dX4_spoil_45 zf_X4_12 rfl rfl rfl ?_
        refine zg_iload (x := (f_X4_placeNumber p1 p3)) dX4_spoil_48 rfl ?_
        refine zg_cV1 (As := [.inl (f_X4_placeNumber p1 p3)]) (S := []) (v := bI ((f_X0_isUsed (f_X4_placeNumber p1 p3) M))) dX4_spoil_50 zk_X4_170 (k_X0_isUsed q (f_X4_placeNumber p1 p3) M) rfl rfl ⟨by decide, by decide⟩ ⟨by decide, by decide⟩ rfl (Nat.le_of_ble_eq_true rfl) ?_
        refine zg_st (pc' := 53) (L' := [some (.inr 0), some (.inl p1), some (.inl p2), some (.inl p3), some (.inl (f_X4_placeNumber p1 p3)), none]) (S' := [.inl (bI ((f_X0_isUsed (f_X4_placeNumber p1 p3) M)))]) (M' := M) rfl rfl rfl rfl ?_
        refine zg_ifbn (tgt := 66) dX4_spoil_53 rfl (fun c53 => ?_) (fun c53 => ?_)
        · refine zg_st (pc' := 66) (L' := [some (.inr 0), some (.inl p1), some (.inl p2), some (.inl p3), some (.inl (f_X4_placeNumber p1 p3)), none]) (S' := []) (M' := M) rfl rfl rfl rfl ?_
          refine zg_aload_n (x := 0) dX4_spoil_66 rfl ?_
          refine zg_getf (v := .inr 1) dX4_spoil_67 zf_X4_12 rfl rfl rfl ?_
          refine zg_iload (x := (f_X4_placeNumber p1 p3)) dX4_spoil_70 rfl ?_
          refine zg_iload_n (x := p2) dX4_spoil_72 rfl ?_
          refine zg_cV1 (As := [.inl (f_X4_placeNumber p1 p3), .inl p2]) (S := []) (v := bI ((f_X0_hasSpoilt (f_X4_placeNumber p1 p3) p2 M))) dX4_spoil_73 zk_X4_175 (k_X0_hasSpoilt q (f_X4_placeNumber p1 p3) p2 M) rfl rfl ⟨by decide, by decide⟩ ⟨by decide, by decide⟩ rfl (Nat.le_of_ble_eq_true rfl) ?_
          refine zg_st (pc' := 76) (L' := [some (.inr 0), some (.inl p1), some (.inl p2), some (.inl p3), some (.inl (f_X4_placeNumber p1 p3)), none]) (S' := [.inl (bI ((f_X0_hasSpoilt (f_X4_placeNumber p1 p3) p2 M)))]) (M' := M) rfl rfl rfl rfl ?_
          refine zg_ifbn (tgt := 83) dX4_spoil_76 rfl (fun c76 => ?_) (fun c76 => ?_)
          · refine zg_st (pc' := 83) (L' := [some (.inr 0), some (.inl p1), some (.inl p2), some (.inl p3), some (.inl (f_X4_placeNumber p1 p3)), none]) (S' := []) (M' := M) rfl rfl rfl rfl ?_
            refine zg_iconst (v := 0) dX4_spoil_83 rfl ?_
            refine zg_istore dX4_spoil_84 (by decide) ?_
            refine zg_st (pc' := 86) (L' := [some (.inr 0), some (.inl p1), some (.inl p2), some (.inl p3), some (.inl (f_X4_placeNumber p1 p3)), some (.inl 0)]) (S' := []) (M' := M) rfl rfl rfl rfl ?_
            refine zg_aload_n (x := 0) dX4_spoil_86 rfl ?_
            refine zg_getf (v := .inr 1) dX4_spoil_87 zf_X4_12 rfl rfl rfl ?_
            refine zg_iload (x := (f_X4_placeNumber p1 p3)) dX4_spoil_90 rfl ?_
            refine zg_iload_n (x := p2) dX4_spoil_92 rfl ?_
            refine zg_iconst (v := 1) dX4_spoil_93 rfl ?_
            refine zg_cVV (As := [.inl (f_X4_placeNumber p1 p3), .inl p2, .inl 1]) (S := []) dX4_spoil_94 zk_X4_178 (k_X0_mark q (f_X4_placeNumber p1 p3) p2 true M) rfl rfl ⟨by decide, by decide⟩ ⟨by decide, by decide⟩ rfl (Nat.le_of_ble_eq_true rfl) (fun N1 e_N1 => ?_)
            try dsimp only
            refine zg_st (pc' := 97) (L' := [some (.inr 0), some (.inl p1), some (.inl p2), some (.inl p3), some (.inl (f_X4_placeNumber p1 p3)), some (.inl 0)]) (S' := []) (M' := N1) rfl rfl rfl rfl ?_
            refine zg_iload (x := 0) dX4_spoil_97 rfl ?_
            exact zg_iret dX4_spoil_99 rfl rfl ⟨by decide, by decide⟩ rfl
          · refine zg_st (pc' := 79) (L' := [some (.inr 0), some (.inl p1), some (.inl p2), some (.inl p3), some (.inl (f_X4_placeNumber p1 p3)), none]) (S' := []) (M' := M) rfl rfl rfl rfl ?_
            refine zg_iconst (v := 1) dX4_spoil_79 rfl ?_
            refine zg_goto (tgt := 84) dX4_spoil_80 rfl ?_
            refine zg_st (pc' := 84) (L' := [some (.inr 0), some (.inl p1), some (.inl p2), some (.inl p3), some (.inl (f_X4_placeNumber p1 p3)), none]) (S' := [.inl 1]) (M' := M) rfl rfl rfl rfl ?_
            refine zg_istore dX4_spoil_84 (by decide) ?_
            refine zg_st (pc' := 86) (L' := [some (.inr 0), some (.inl p1), some (.inl p2), some (.inl p3), some (.inl (f_X4_placeNumber p1 p3)), some (.inl 1)]) (S' := []) (M' := M) rfl rfl rfl rfl ?_
            refine zg_aload_n (x := 0) dX4_spoil_86 rfl ?_
            refine zg_getf (v := .inr 1) dX4_spoil_87 zf_X4_12 rfl rfl rfl ?_
            refine zg_iload (x := (f_X4_placeNumber p1 p3)) dX4_spoil_90 rfl ?_
            refine zg_iload_n (x := p2) dX4_spoil_92 rfl ?_
            refine zg_iconst (v := 1) dX4_spoil_93 rfl ?_
            refine zg_cVV (As := [.inl (f_X4_placeNumber p1 p3), .inl p2, .inl 1]) (S := []) dX4_spoil_94 zk_X4_178 (k_X0_mark q (f_X4_placeNumber p1 p3) p2 true M) rfl rfl ⟨by decide, by decide⟩ ⟨by decide, by decide⟩ rfl (Nat.le_of_ble_eq_true rfl) (fun N2 e_N2 => ?_)
            try dsimp only
            refine zg_st (pc' := 97) (L' := [some (.inr 0), some (.inl p1), some (.inl p2), some (.inl p3), some (.inl (f_X4_placeNumber p1 p3)), some (.inl 1)]) (S' := []) (M' := N2) rfl rfl rfl rfl ?_
            refine zg_iload (x := 1) dX4_spoil_97 rfl ?_
            exact zg_iret dX4_spoil_99 rfl rfl ⟨by decide, by decide⟩ rfl
        · refine zg_st (pc' := 56) (L' := [some (.inr 0), some (.inl p1), some (.inl p2), some (.inl p3), some (.inl (f_X4_placeNumber p1 p3)), none]) (S' := []) (M' := M) rfl rfl rfl rfl ?_
          exact zg_throw (text := "the side is offline, or the cell is free") hq zt_99 rfl (by decide) dX4_spoil_56 dX4_spoil_59 dX4_spoil_60 dX4_spoil_62 dX4_spoil_65 (by decide) (Nat.le_of_ble_eq_true rfl) (by decide) (by decide) rfl
      · refine zg_st (pc' := 56) (L' := [some (.inr 0), some (.inl p1), some (.inl p2), some (.inl p3), some (.inl (f_X4_placeNumber p1 p3)), none]) (S' := []) (M' := M) rfl rfl rfl rfl ?_
        exact zg_throw (text := "the side is offline, or the cell is free") hq zt_99 rfl (by decide) dX4_spoil_56 dX4_spoil_59 dX4_spoil_60 dX4_spoil_62 dX4_spoil_65 (by decide) (Nat.le_of_ble_eq_true rfl) (by decide) (by decide) rfl
    · refine zg_st (pc' := 15) (L' := [some (.inr 0), some (.inl p1), some (.inl p2), some (.inl p3), none, none]) (S' := []) (M' := M) rfl rfl rfl rfl ?_
      exact zg_throw (text := "mirror, side or cell is out of range") hq zt_55 rfl (by decide) dX4_spoil_15 dX4_spoil_18 dX4_spoil_19 dX4_spoil_21 dX4_spoil_24 (by decide) (Nat.le_of_ble_eq_true rfl) (by decide) (by decide) rfl
  · refine zg_st (pc' := 15) (L' := [some (.inr 0), some (.inl p1), some (.inl p2), some (.inl p3), none, none]) (S' := []) (M' := M) rfl rfl rfl rfl ?_
    exact zg_throw (text := "mirror, side or cell is out of range") hq zt_55 rfl (by decide) dX4_spoil_15 dX4_spoil_18 dX4_spoil_19 dX4_spoil_21 dX4_spoil_24 (by decide) (Nat.le_of_ble_eq_true rfl) (by decide) (by decide) rfl
theorem dX4_isSpoilt_0 : decode cX4_isSpoilt 0 = .ok (.iload_n 1, 1) := by decide +kernel
theorem dX4_isSpoilt_1 : decode cX4_isSpoilt 1 = .ok (.iload_n 2, 1) := by decide +kernel
theorem dX4_isSpoilt_2 : decode cX4_isSpoilt 2 = .ok (.invokestatic 140, 3) := by decide +kernel
theorem dX4_isSpoilt_5 : decode cX4_isSpoilt 5 = .ok (.ifCond .eq 10, 3) := by decide +kernel
theorem dX4_isSpoilt_8 : decode cX4_isSpoilt 8 = .ok (.iload_n 3, 1) := by decide +kernel
theorem dX4_isSpoilt_9 : decode cX4_isSpoilt 9 = .ok (.invokestatic 162, 3) := by decide +kernel
theorem dX4_isSpoilt_12 : decode cX4_isSpoilt 12 = .ok (.ifCond .ne 13, 3) := by decide +kernel
theorem dX4_isSpoilt_15 : decode cX4_isSpoilt 15 = .ok (.new 55, 3) := by decide +kernel
theorem dX4_isSpoilt_18 : decode cX4_isSpoilt 18 = .ok (.dup, 1) := by decide +kernel
theorem dX4_isSpoilt_19 : decode cX4_isSpoilt 19 = .ok (.ldc 165, 2) := by decide +kernel
theorem dX4_isSpoilt_21 : decode cX4_isSpoilt 21 = .ok (.invokespecial 59, 3) := by decide +kernel
theorem dX4_isSpoilt_24 : decode cX4_isSpoilt 24 = .ok (.athrow, 1) := by decide +kernel
theorem dX4_isSpoilt_25 : decode cX4_isSpoilt 25 = .ok (.aload_n 0, 1) := by decide +kernel
theorem dX4_isSpoilt_26 : decode cX4_isSpoilt 26 = .ok (.getfield 12, 3) := by decide +kernel
theorem dX4_isSpoilt_29 : decode cX4_isSpoilt 29 = .ok (.iload_n 1, 1) := by decide +kernel
theorem dX4_isSpoilt_30 : decode cX4_isSpoilt 30 = .ok (.iload_n 2, 1) := by decide +kernel
theorem dX4_isSpoilt_31 : decode cX4_isSpoilt 31 = .ok (.invokevirtual 145, 3) := by decide +kernel
theorem dX4_isSpoilt_34 : decode cX4_isSpoilt 34 = .ok (.ifCond .ne 13, 3) := by decide +kernel
theorem dX4_isSpoilt_37 : decode cX4_isSpoilt 37 = .ok (.new 99, 3) := by decide +kernel
theorem dX4_isSpoilt_40 : decode cX4_isSpoilt 40 = .ok (.dup, 1) := by decide +kernel
theorem dX4_isSpoilt_41 : decode cX4_isSpoilt 41 = .ok (.ldc 182, 2) := by decide +kernel
theorem dX4_isSpoilt_43 : decode cX4_isSpoilt 43 = .ok (.invokespecial 103, 3) := by decide +kernel
theorem dX4_isSpoilt_46 : decode cX4_isSpoilt 46 = .ok (.athrow, 1) := by decide +kernel
theorem dX4_isSpoilt_47 : decode cX4_isSpoilt 47 = .ok (.aload_n 0, 1) := by decide +kernel
theorem dX4_isSpoilt_48 : decode cX4_isSpoilt 48 = .ok (.getfield 12, 3) := by decide +kernel
theorem dX4_isSpoilt_51 : decode cX4_isSpoilt 51 = .ok (.iload_n 1, 1) := by decide +kernel
theorem dX4_isSpoilt_52 : decode cX4_isSpoilt 52 = .ok (.iload_n 3, 1) := by decide +kernel
theorem dX4_isSpoilt_53 : decode cX4_isSpoilt 53 = .ok (.invokestatic 167, 3) := by decide +kernel
theorem dX4_isSpoilt_56 : decode cX4_isSpoilt 56 = .ok (.iload_n 2, 1) := by decide +kernel
theorem dX4_isSpoilt_57 : decode cX4_isSpoilt 57 = .ok (.invokevirtual 175, 3) := by decide +kernel
theorem dX4_isSpoilt_60 : decode cX4_isSpoilt 60 = .ok (.ireturn, 1) := by decide +kernel
def f_X4_isSpoilt (p1 : Int32) (p2 : Int32) (p3 : Int32) (M : Mem) : (Bool ⊕ String) :=
  if (f_X4_isSideOfMirror p1 p2) then if (f_X4_isCell p3) then if (f_X0_hasOnline p1 p2 M) then .inl (f_X0_hasSpoilt (f_X4_placeNumber p1 p3) p2 M)
      else .inr "java/lang/IllegalStateException"
    else .inr "java/lang/IllegalArgumentException"
  else .inr "java/lang/IllegalArgumentException"
set_option maxRecDepth 100000 in
set_option maxHeartbeats 4000000 in
theorem k_X4_isSpoilt (q : ZQ) (hq : q.1.stackTraces = false) (p1 : Int32) (p2 : Int32) (p3 : Int32) (M : Mem) : Zc (zgX q) mX4_isSpoilt 1 6 [.inr 0, .inl p1, .inl p2, .inl p3] M (xB M (f_X4_isSpoilt p1 p2 p3 M)) := by
  refine Zc.of (by decide) zi_X4_isSpoilt.1 (Nat.le_of_ble_eq_true rfl) rfl ?_
  show Zg _ _ _ _ _ _ (zlet (f_X4_isSpoilt p1 p2 p3 M) (xB M)) _ _ _ _
  unfold f_X4_isSpoilt
  refine zg_iload_n (x := p1) dX4_isSpoilt_0 rfl ?_
  refine zg_iload_n (x := p2) dX4_isSpoilt_1 rfl ?_
  refine zg_cS1 (As := [.inl p1, .inl p2]) (S := []) (v := bI ((f_X4_isSideOfMirror p1 p2))) dX4_isSpoilt_2 zk_X4_140 (k_X4_isSideOfMirror q p1 p2 M) rfl ⟨by decide, by decide⟩ ⟨by decide, by decide⟩ rfl (Nat.le_of_ble_eq_true rfl) ?_
  refine zg_st (pc' := 5) (L' := [some (.inr 0), some (.inl p1), some (.inl p2), some (.inl p3)]) (S' := [.inl (bI ((f_X4_isSideOfMirror p1 p2)))]) (M' := M) rfl rfl rfl rfl ?_
  refine zg_ifbe (tgt := 15) dX4_isSpoilt_5 rfl (fun c5 => ?_) (fun c5 => ?_)
  · refine zg_st (pc' := 8) (L' := [some (.inr 0), some (.inl p1), some (.inl p2), some (.inl p3)]) (S' := []) (M' := M) rfl rfl rfl rfl ?_
    refine zg_iload_n (x := p3) dX4_isSpoilt_8 rfl ?_
    refine zg_cS1 (As := [.inl p3]) (S := []) (v := bI ((f_X4_isCell p3))) dX4_isSpoilt_9 zk_X4_162 (k_X4_isCell q p3 M) rfl ⟨by decide, by decide⟩ ⟨by decide, by decide⟩ rfl (Nat.le_of_ble_eq_true rfl) ?_
    refine zg_st (pc' := 12) (L' := [some (.inr 0), some (.inl p1), some (.inl p2), some (.inl p3)]) (S' := [.inl (bI ((f_X4_isCell p3)))]) (M' := M) rfl rfl rfl rfl ?_
    refine zg_ifbn (tgt := 25) dX4_isSpoilt_12 rfl (fun c12 => ?_) (fun c12 => ?_)
    · refine zg_st (pc' := 25) (L' := [some (.inr 0), some (.inl p1), some (.inl p2), some (.inl p3)]) (S' := []) (M' := M) rfl rfl rfl rfl ?_
      refine zg_aload_n (x := 0) dX4_isSpoilt_25 rfl ?_
      refine zg_getf (v := .inr 1) dX4_isSpoilt_26 zf_X4_12 rfl rfl rfl ?_
      refine zg_iload_n (x := p1) dX4_isSpoilt_29 rfl ?_
      refine zg_iload_n (x := p2) dX4_isSpoilt_30 rfl ?_
      refine zg_cV1 (As := [.inl p1, .inl p2]) (S := []) (v := bI ((f_X0_hasOnline p1 p2 M))) dX4_isSpoilt_31 zk_X4_145 (k_X0_hasOnline q p1 p2 M) rfl rfl ⟨by decide, by decide⟩ ⟨by decide, by decide⟩ rfl (Nat.le_of_ble_eq_true rfl) ?_
      refine zg_st (pc' := 34) (L' := [some (.inr 0), some (.inl p1), some (.inl p2), some (.inl p3)]) (S' := [.inl (bI ((f_X0_hasOnline p1 p2 M)))]) (M' := M) rfl rfl rfl rfl ?_
      refine zg_ifbn (tgt := 47) dX4_isSpoilt_34 rfl (fun c34 => ?_) (fun c34 => ?_)
      · refine zg_st (pc' := 47) (L' := [some (.inr 0), some (.inl p1), some (.inl p2), some (.inl p3)]) (S' := []) (M' := M) rfl rfl rfl rfl ?_
        refine zg_aload_n (x := 0) dX4_isSpoilt_47 rfl ?_
        refine zg_getf (v := .inr 1) dX4_isSpoilt_48 zf_X4_12 rfl rfl rfl ?_
        refine zg_iload_n (x := p1) dX4_isSpoilt_51 rfl ?_
        refine zg_iload_n (x := p3) dX4_isSpoilt_52 rfl ?_
        refine zg_cS1 (As := [.inl p1, .inl p3]) (S := [.inr 1]) (v := (f_X4_placeNumber p1 p3)) dX4_isSpoilt_53 zk_X4_167 (k_X4_placeNumber q p1 p3 M) rfl ⟨by decide, by decide⟩ ⟨by decide, by decide⟩ rfl (Nat.le_of_ble_eq_true rfl) ?_
        refine zg_st (pc' := 56) (L' := [some (.inr 0), some (.inl p1), some (.inl p2), some (.inl p3)]) (S' := [.inl (f_X4_placeNumber p1 p3), .inr 1]) (M' := M) rfl rfl rfl rfl ?_
        refine zg_iload_n (x := p2) dX4_isSpoilt_56 rfl ?_
        refine zg_cV1 (As := [.inl (f_X4_placeNumber p1 p3), .inl p2]) (S := []) (v := bI ((f_X0_hasSpoilt (f_X4_placeNumber p1 p3) p2 M))) dX4_isSpoilt_57 zk_X4_175 (k_X0_hasSpoilt q (f_X4_placeNumber p1 p3) p2 M) rfl rfl ⟨by decide, by decide⟩ ⟨by decide, by decide⟩ rfl (Nat.le_of_ble_eq_true rfl) ?_
        refine zg_st (pc' := 60) (L' := [some (.inr 0), some (.inl p1), some (.inl p2), some (.inl p3)]) (S' := [.inl (bI ((f_X0_hasSpoilt (f_X4_placeNumber p1 p3) p2 M)))]) (M' := M) rfl rfl rfl rfl ?_
        exact zg_iret dX4_isSpoilt_60 rfl (bI_nar _) ⟨by decide, by decide⟩ rfl
      · refine zg_st (pc' := 37) (L' := [some (.inr 0), some (.inl p1), some (.inl p2), some (.inl p3)]) (S' := []) (M' := M) rfl rfl rfl rfl ?_
        exact zg_throw (text := "the side is offline") hq zt_99 rfl (by decide) dX4_isSpoilt_37 dX4_isSpoilt_40 dX4_isSpoilt_41 dX4_isSpoilt_43 dX4_isSpoilt_46 (by decide) (Nat.le_of_ble_eq_true rfl) (by decide) (by decide) rfl
    · refine zg_st (pc' := 15) (L' := [some (.inr 0), some (.inl p1), some (.inl p2), some (.inl p3)]) (S' := []) (M' := M) rfl rfl rfl rfl ?_
      exact zg_throw (text := "mirror, side or cell is out of range") hq zt_55 rfl (by decide) dX4_isSpoilt_15 dX4_isSpoilt_18 dX4_isSpoilt_19 dX4_isSpoilt_21 dX4_isSpoilt_24 (by decide) (Nat.le_of_ble_eq_true rfl) (by decide) (by decide) rfl
  · refine zg_st (pc' := 15) (L' := [some (.inr 0), some (.inl p1), some (.inl p2), some (.inl p3)]) (S' := []) (M' := M) rfl rfl rfl rfl ?_
    exact zg_throw (text := "mirror, side or cell is out of range") hq zt_55 rfl (by decide) dX4_isSpoilt_15 dX4_isSpoilt_18 dX4_isSpoilt_19 dX4_isSpoilt_21 dX4_isSpoilt_24 (by decide) (Nat.le_of_ble_eq_true rfl) (by decide) (by decide) rfl
theorem dX4_isFree_0 : decode cX4_isFree 0 = .ok (.iload_n 1, 1) := by decide +kernel
theorem dX4_isFree_1 : decode cX4_isFree 1 = .ok (.invokestatic 184, 3) := by decide +kernel
theorem dX4_isFree_4 : decode cX4_isFree 4 = .ok (.ifCond .eq 10, 3) := by decide +kernel
theorem dX4_isFree_7 : decode cX4_isFree 7 = .ok (.iload_n 2, 1) := by decide +kernel
theorem dX4_isFree_8 : decode cX4_isFree 8 = .ok (.invokestatic 162, 3) := by decide +kernel
theorem dX4_isFree_11 : decode cX4_isFree 11 = .ok (.ifCond .ne 13, 3) := by decide +kernel
theorem dX4_isFree_14 : decode cX4_isFree 14 = .ok (.new 55, 3) := by decide +kernel
theorem dX4_isFree_17 : decode cX4_isFree 17 = .ok (.dup, 1) := by decide +kernel
theorem dX4_isFree_18 : decode cX4_isFree 18 = .ok (.ldc 187, 2) := by decide +kernel
theorem dX4_isFree_20 : decode cX4_isFree 20 = .ok (.invokespecial 59, 3) := by decide +kernel
theorem dX4_isFree_23 : decode cX4_isFree 23 = .ok (.athrow, 1) := by decide +kernel
theorem dX4_isFree_24 : decode cX4_isFree 24 = .ok (.aload_n 0, 1) := by decide +kernel
theorem dX4_isFree_25 : decode cX4_isFree 25 = .ok (.getfield 12, 3) := by decide +kernel
theorem dX4_isFree_28 : decode cX4_isFree 28 = .ok (.iload_n 1, 1) := by decide +kernel
theorem dX4_isFree_29 : decode cX4_isFree 29 = .ok (.iload_n 2, 1) := by decide +kernel
theorem dX4_isFree_30 : decode cX4_isFree 30 = .ok (.invokestatic 167, 3) := by decide +kernel
theorem dX4_isFree_33 : decode cX4_isFree 33 = .ok (.invokevirtual 170, 3) := by decide +kernel
theorem dX4_isFree_36 : decode cX4_isFree 36 = .ok (.ifCond .ne 7, 3) := by decide +kernel
theorem dX4_isFree_39 : decode cX4_isFree 39 = .ok (.iconst 1, 1) := by decide +kernel
theorem dX4_isFree_40 : decode cX4_isFree 40 = .ok (.goto 4, 3) := by decide +kernel
theorem dX4_isFree_43 : decode cX4_isFree 43 = .ok (.iconst 0, 1) := by decide +kernel
theorem dX4_isFree_44 : decode cX4_isFree 44 = .ok (.ireturn, 1) := by decide +kernel
def f_X4_isFree (p1 : Int32) (p2 : Int32) (M : Mem) : (Bool ⊕ String) :=
  if (f_X4_isMirror p1) then if (f_X4_isCell p2) then if (f_X0_isUsed (f_X4_placeNumber p1 p2) M) then .inl false
      else .inl true
    else .inr "java/lang/IllegalArgumentException"
  else .inr "java/lang/IllegalArgumentException"
set_option maxRecDepth 100000 in
set_option maxHeartbeats 4000000 in
theorem k_X4_isFree (q : ZQ) (hq : q.1.stackTraces = false) (p1 : Int32) (p2 : Int32) (M : Mem) : Zc (zgX q) mX4_isFree 1 6 [.inr 0, .inl p1, .inl p2] M (xB M (f_X4_isFree p1 p2 M)) := by
  refine Zc.of (by decide) zi_X4_isFree.1 (Nat.le_of_ble_eq_true rfl) rfl ?_
  show Zg _ _ _ _ _ _ (zlet (f_X4_isFree p1 p2 M) (xB M)) _ _ _ _
  unfold f_X4_isFree
  refine zg_iload_n (x := p1) dX4_isFree_0 rfl ?_
  refine zg_cS1 (As := [.inl p1]) (S := []) (v := bI ((f_X4_isMirror p1))) dX4_isFree_1 zk_X4_184 (k_X4_isMirror q p1 M) rfl ⟨by decide, by decide⟩ ⟨by decide, by decide⟩ rfl (Nat.le_of_ble_eq_true rfl) ?_
  refine zg_st (pc' := 4) (L' := [some (.inr 0), some (.inl p1), some (.inl p2)]) (S' := [.inl (bI ((f_X4_isMirror p1)))]) (M' := M) rfl rfl rfl rfl ?_
  refine zg_ifbe (tgt := 14) dX4_isFree_4 rfl (fun c4 => ?_) (fun c4 => ?_)
  · refine zg_st (pc' := 7) (L' := [some (.inr 0), some (.inl p1), some (.inl p2)]) (S' := []) (M' := M) rfl rfl rfl rfl ?_
    refine zg_iload_n (x := p2) dX4_isFree_7 rfl ?_
    refine zg_cS1 (As := [.inl p2]) (S := []) (v := bI ((f_X4_isCell p2))) dX4_isFree_8 zk_X4_162 (k_X4_isCell q p2 M) rfl ⟨by decide, by decide⟩ ⟨by decide, by decide⟩ rfl (Nat.le_of_ble_eq_true rfl) ?_
    refine zg_st (pc' := 11) (L' := [some (.inr 0), some (.inl p1), some (.inl p2)]) (S' := [.inl (bI ((f_X4_isCell p2)))]) (M' := M) rfl rfl rfl rfl ?_
    refine zg_ifbn (tgt := 24) dX4_isFree_11 rfl (fun c11 => ?_) (fun c11 => ?_)
    · refine zg_st (pc' := 24) (L' := [some (.inr 0), some (.inl p1), some (.inl p2)]) (S' := []) (M' := M) rfl rfl rfl rfl ?_
      refine zg_aload_n (x := 0) dX4_isFree_24 rfl ?_
      refine zg_getf (v := .inr 1) dX4_isFree_25 zf_X4_12 rfl rfl rfl ?_
      refine zg_iload_n (x := p1) dX4_isFree_28 rfl ?_
      refine zg_iload_n (x := p2) dX4_isFree_29 rfl ?_
      refine zg_cS1 (As := [.inl p1, .inl p2]) (S := [.inr 1]) (v := (f_X4_placeNumber p1 p2)) dX4_isFree_30 zk_X4_167 (k_X4_placeNumber q p1 p2 M) rfl ⟨by decide, by decide⟩ ⟨by decide, by decide⟩ rfl (Nat.le_of_ble_eq_true rfl) ?_
      refine zg_st (pc' := 33) (L' := [some (.inr 0), some (.inl p1), some (.inl p2)]) (S' := [.inl (f_X4_placeNumber p1 p2), .inr 1]) (M' := M) rfl rfl rfl rfl ?_
      refine zg_cV1 (As := [.inl (f_X4_placeNumber p1 p2)]) (S := []) (v := bI ((f_X0_isUsed (f_X4_placeNumber p1 p2) M))) dX4_isFree_33 zk_X4_170 (k_X0_isUsed q (f_X4_placeNumber p1 p2) M) rfl rfl ⟨by decide, by decide⟩ ⟨by decide, by decide⟩ rfl (Nat.le_of_ble_eq_true rfl) ?_
      refine zg_st (pc' := 36) (L' := [some (.inr 0), some (.inl p1), some (.inl p2)]) (S' := [.inl (bI ((f_X0_isUsed (f_X4_placeNumber p1 p2) M)))]) (M' := M) rfl rfl rfl rfl ?_
      refine zg_ifbn (tgt := 43) dX4_isFree_36 rfl (fun c36 => ?_) (fun c36 => ?_)
      · refine zg_st (pc' := 43) (L' := [some (.inr 0), some (.inl p1), some (.inl p2)]) (S' := []) (M' := M) rfl rfl rfl rfl ?_
        refine zg_iconst (v := 0) dX4_isFree_43 rfl ?_
        exact zg_iret dX4_isFree_44 rfl rfl ⟨by decide, by decide⟩ rfl
      · refine zg_st (pc' := 39) (L' := [some (.inr 0), some (.inl p1), some (.inl p2)]) (S' := []) (M' := M) rfl rfl rfl rfl ?_
        refine zg_iconst (v := 1) dX4_isFree_39 rfl ?_
        refine zg_goto (tgt := 44) dX4_isFree_40 rfl ?_
        refine zg_st (pc' := 44) (L' := [some (.inr 0), some (.inl p1), some (.inl p2)]) (S' := [.inl 1]) (M' := M) rfl rfl rfl rfl ?_
        exact zg_iret dX4_isFree_44 rfl rfl ⟨by decide, by decide⟩ rfl
    · refine zg_st (pc' := 14) (L' := [some (.inr 0), some (.inl p1), some (.inl p2)]) (S' := []) (M' := M) rfl rfl rfl rfl ?_
      exact zg_throw (text := "mirror or cell is out of range") hq zt_55 rfl (by decide) dX4_isFree_14 dX4_isFree_17 dX4_isFree_18 dX4_isFree_20 dX4_isFree_23 (by decide) (Nat.le_of_ble_eq_true rfl) (by decide) (by decide) rfl
  · refine zg_st (pc' := 14) (L' := [some (.inr 0), some (.inl p1), some (.inl p2)]) (S' := []) (M' := M) rfl rfl rfl rfl ?_
    exact zg_throw (text := "mirror or cell is out of range") hq zt_55 rfl (by decide) dX4_isFree_14 dX4_isFree_17 dX4_isFree_18 dX4_isFree_20 dX4_isFree_23 (by decide) (Nat.le_of_ble_eq_true rfl) (by decide) (by decide) rfl
theorem dX4_free_0 : decode cX4_free 0 = .ok (.iload_n 1, 1) := by decide +kernel
theorem dX4_free_1 : decode cX4_free 1 = .ok (.invokestatic 184, 3) := by decide +kernel
theorem dX4_free_4 : decode cX4_free 4 = .ok (.ifCond .ne 13, 3) := by decide +kernel
theorem dX4_free_7 : decode cX4_free 7 = .ok (.new 55, 3) := by decide +kernel
theorem dX4_free_10 : decode cX4_free 10 = .ok (.dup, 1) := by decide +kernel
theorem dX4_free_11 : decode cX4_free 11 = .ok (.ldc 189, 2) := by decide +kernel
theorem dX4_free_13 : decode cX4_free 13 = .ok (.invokespecial 59, 3) := by decide +kernel
theorem dX4_free_16 : decode cX4_free 16 = .ok (.athrow, 1) := by decide +kernel
theorem dX4_free_17 : decode cX4_free 17 = .ok (.aload_n 0, 1) := by decide +kernel
theorem dX4_free_18 : decode cX4_free 18 = .ok (.getfield 12, 3) := by decide +kernel
theorem dX4_free_21 : decode cX4_free 21 = .ok (.iload_n 1, 1) := by decide +kernel
theorem dX4_free_22 : decode cX4_free 22 = .ok (.invokevirtual 191, 3) := by decide +kernel
theorem dX4_free_25 : decode cX4_free 25 = .ok (.ireturn, 1) := by decide +kernel
def f_X4_free (p1 : Int32) (M : Mem) : (Int32 ⊕ String) :=
  if (f_X4_isMirror p1) then .inl (f_X0_countFree p1 M)
  else .inr "java/lang/IllegalArgumentException"
set_option maxRecDepth 100000 in
set_option maxHeartbeats 4000000 in
theorem k_X4_free (q : ZQ) (hq : q.1.stackTraces = false) (p1 : Int32) (M : Mem) : Zc (zgX q) mX4_free 1 6 [.inr 0, .inl p1] M (xI M (f_X4_free p1 M)) := by
  refine Zc.of (by decide) zi_X4_free.1 (Nat.le_of_ble_eq_true rfl) rfl ?_
  show Zg _ _ _ _ _ _ (zlet (f_X4_free p1 M) (xI M)) _ _ _ _
  unfold f_X4_free
  refine zg_iload_n (x := p1) dX4_free_0 rfl ?_
  refine zg_cS1 (As := [.inl p1]) (S := []) (v := bI ((f_X4_isMirror p1))) dX4_free_1 zk_X4_184 (k_X4_isMirror q p1 M) rfl ⟨by decide, by decide⟩ ⟨by decide, by decide⟩ rfl (Nat.le_of_ble_eq_true rfl) ?_
  refine zg_st (pc' := 4) (L' := [some (.inr 0), some (.inl p1)]) (S' := [.inl (bI ((f_X4_isMirror p1)))]) (M' := M) rfl rfl rfl rfl ?_
  refine zg_ifbn (tgt := 17) dX4_free_4 rfl (fun c4 => ?_) (fun c4 => ?_)
  · refine zg_st (pc' := 17) (L' := [some (.inr 0), some (.inl p1)]) (S' := []) (M' := M) rfl rfl rfl rfl ?_
    refine zg_aload_n (x := 0) dX4_free_17 rfl ?_
    refine zg_getf (v := .inr 1) dX4_free_18 zf_X4_12 rfl rfl rfl ?_
    refine zg_iload_n (x := p1) dX4_free_21 rfl ?_
    refine zg_cV1 (As := [.inl p1]) (S := []) (v := (f_X0_countFree p1 M)) dX4_free_22 zk_X4_191 (k_X0_countFree q p1 M) rfl rfl ⟨by decide, by decide⟩ ⟨by decide, by decide⟩ rfl (Nat.le_of_ble_eq_true rfl) ?_
    refine zg_st (pc' := 25) (L' := [some (.inr 0), some (.inl p1)]) (S' := [.inl (f_X0_countFree p1 M)]) (M' := M) rfl rfl rfl rfl ?_
    exact zg_iret dX4_free_25 rfl rfl ⟨by decide, by decide⟩ rfl
  · refine zg_st (pc' := 7) (L' := [some (.inr 0), some (.inl p1)]) (S' := []) (M' := M) rfl rfl rfl rfl ?_
    exact zg_throw (text := "mirror is out of range") hq zt_55 rfl (by decide) dX4_free_7 dX4_free_10 dX4_free_11 dX4_free_13 dX4_free_16 (by decide) (Nat.le_of_ble_eq_true rfl) (by decide) (by decide) rfl
theorem dX4_scrub_0 : decode cX4_scrub 0 = .ok (.iconst 0, 1) := by decide +kernel
theorem dX4_scrub_1 : decode cX4_scrub 1 = .ok (.istore_n 1, 1) := by decide +kernel
theorem dX4_scrub_2 : decode cX4_scrub 2 = .ok (.aload_n 0, 1) := by decide +kernel
theorem dX4_scrub_3 : decode cX4_scrub 3 = .ok (.bipush 52, 2) := by decide +kernel
theorem dX4_scrub_5 : decode cX4_scrub 5 = .ok (.invokevirtual 194, 3) := by decide +kernel
theorem dX4_scrub_8 : decode cX4_scrub 8 = .ok (.ifCond .eq 33, 3) := by decide +kernel
theorem dX4_scrub_11 : decode cX4_scrub 11 = .ok (.iload_n 1, 1) := by decide +kernel
theorem dX4_scrub_12 : decode cX4_scrub 12 = .ok (.aload_n 0, 1) := by decide +kernel
theorem dX4_scrub_13 : decode cX4_scrub 13 = .ok (.bipush 52, 2) := by decide +kernel
theorem dX4_scrub_15 : decode cX4_scrub 15 = .ok (.invokevirtual 197, 3) := by decide +kernel
theorem dX4_scrub_18 : decode cX4_scrub 18 = .ok (.iadd, 1) := by decide +kernel
theorem dX4_scrub_19 : decode cX4_scrub 19 = .ok (.istore_n 1, 1) := by decide +kernel
theorem dX4_scrub_20 : decode cX4_scrub 20 = .ok (.iconst 0, 1) := by decide +kernel
theorem dX4_scrub_21 : decode cX4_scrub 21 = .ok (.istore_n 2, 1) := by decide +kernel
theorem dX4_scrub_22 : decode cX4_scrub 22 = .ok (.iload_n 2, 1) := by decide +kernel
theorem dX4_scrub_23 : decode cX4_scrub 23 = .ok (.iconst 4, 1) := by decide +kernel
theorem dX4_scrub_24 : decode cX4_scrub 24 = .ok (.if_icmp .ge 17, 3) := by decide +kernel
theorem dX4_scrub_27 : decode cX4_scrub 27 = .ok (.iload_n 1, 1) := by decide +kernel
theorem dX4_scrub_28 : decode cX4_scrub 28 = .ok (.aload_n 0, 1) := by decide +kernel
theorem dX4_scrub_29 : decode cX4_scrub 29 = .ok (.iload_n 2, 1) := by decide +kernel
theorem dX4_scrub_30 : decode cX4_scrub 30 = .ok (.invokevirtual 200, 3) := by decide +kernel
theorem dX4_scrub_33 : decode cX4_scrub 33 = .ok (.iadd, 1) := by decide +kernel
theorem dX4_scrub_34 : decode cX4_scrub 34 = .ok (.istore_n 1, 1) := by decide +kernel
theorem dX4_scrub_35 : decode cX4_scrub 35 = .ok (.iinc 2 1, 3) := by decide +kernel
theorem dX4_scrub_38 : decode cX4_scrub 38 = .ok (.goto (-16), 3) := by decide +kernel
theorem dX4_scrub_41 : decode cX4_scrub 41 = .ok (.aload_n 0, 1) := by decide +kernel
theorem dX4_scrub_42 : decode cX4_scrub 42 = .ok (.dup, 1) := by decide +kernel
theorem dX4_scrub_43 : decode cX4_scrub 43 = .ok (.getfield 47, 3) := by decide +kernel
theorem dX4_scrub_46 : decode cX4_scrub 46 = .ok (.iload_n 1, 1) := by decide +kernel
theorem dX4_scrub_47 : decode cX4_scrub 47 = .ok (.iadd, 1) := by decide +kernel
theorem dX4_scrub_48 : decode cX4_scrub 48 = .ok (.putfield 47, 3) := by decide +kernel
theorem dX4_scrub_51 : decode cX4_scrub 51 = .ok (.iload_n 1, 1) := by decide +kernel
theorem dX4_scrub_52 : decode cX4_scrub 52 = .ok (.ireturn, 1) := by decide +kernel
def b_X4_scrub_22 (rec : Int32 → Int32 → Mem → Int32 × Int32 × Mem) (v1 : Int32) (v2 : Int32) (N : Mem) : Int32 × Int32 × Mem :=
  if 4 ≤ v2 then (v1, v2, N)
  else zlet (f_X4_scrubFile v2 N) (fun q2 =>
  rec (v1 + q2.1) (v2 + 1) q2.2)
def l_X4_scrub_22 : Nat → Int32 → Int32 → Mem → Int32 × Int32 × Mem
  | 0, v1, v2, N => (v1, v2, N)
  | n + 1, v1, v2, N => b_X4_scrub_22 (l_X4_scrub_22 n) v1 v2 N
set_option maxRecDepth 100000 in
set_option maxHeartbeats 4000000 in
theorem kl_X4_scrub_22 (q : ZQ) {K : Int32 × Int32 × Mem → ZR} (hx : ∀ e : Int32 × Int32 × Mem, Zg (zgX q) mX4_scrub 0 0 0 0 (K e) 41 [some (.inr 0), some (.inl e.1), some (.inl e.2.1)] [] e.2.2) :
    ∀ (n : Nat) (v1 : Int32) (v2 : Int32) (N : Mem), ((4 : Int32).toInt - (v2 : Int32).toInt).toNat < n → Zg (zgX q) mX4_scrub 0 0 0 0 (zlet (l_X4_scrub_22 n v1 v2 N) K) 22 [some (.inr 0), some (.inl v1), some (.inl v2)] [] N := by
  intro n
  induction n with
  | zero => intro v1 v2 N hm; exact absurd hm (Nat.not_lt_zero _)
  | succ n ih =>
    intro v1 v2 N hm
    show Zg _ _ _ _ _ _ (zlet (b_X4_scrub_22 (l_X4_scrub_22 n) v1 v2 N) K) _ _ _ _
    unfold b_X4_scrub_22
    refine zg_iload_n (x := v2) dX4_scrub_22 rfl ?_
    refine zg_iconst (v := 4) dX4_scrub_23 rfl ?_
    refine zg_icmpz (tgt := 41) dX4_scrub_24 rfl rfl (fun c24 => ?_) (fun c24 => ?_)
    · refine zg_st (pc' := 41) (L' := [some (.inr 0), some (.inl v1), some (.inl v2)]) (S' := []) (M' := N) rfl rfl rfl rfl ?_
      refine zg_drop (L' := [some (.inr 0), some (.inl v1), some (.inl v2)]) ⟨rfl, rfl, rfl, trivial⟩ ?_
      exact hx (v1, v2, N)
    · refine zg_st (pc' := 27) (L' := [some (.inr 0), some (.inl v1), some (.inl v2)]) (S' := []) (M' := N) rfl rfl rfl rfl ?_
      refine zg_iload_n (x := v1) dX4_scrub_27 rfl ?_
      refine zg_aload_n (x := 0) dX4_scrub_28 rfl ?_
      refine zg_iload_n (x := v2) dX4_scrub_29 rfl ?_
      refine zg_cVIM (As := [.inl v2]) (S := [.inl v1]) dX4_scrub_30 zk_X4_200 (k_X4_scrubFile q v2 N) rfl rfl ⟨by decide, by decide⟩ ⟨by decide, by decide⟩ rfl (Nat.le_of_ble_eq_true rfl) (fun q2 e_q2 => ?_)
      try dsimp only
      refine zg_st (pc' := 33) (L' := [some (.inr 0), some (.inl v1), some (.inl v2)]) (S' := [.inl q2.1, .inl v1]) (M' := q2.2) rfl rfl rfl rfl ?_
      refine zg_iadd dX4_scrub_33 ?_
      refine zg_istore_n dX4_scrub_34 (by decide) ?_
      refine zg_st (pc' := 35) (L' := [some (.inr 0), some (.inl (v1 + q2.1)), some (.inl v2)]) (S' := []) (M' := q2.2) rfl rfl rfl rfl ?_
      refine zg_iinc (v := (v2 + 1)) dX4_scrub_35 rfl (by decide) rfl ?_
      refine zg_st (pc' := 38) (L' := [some (.inr 0), some (.inl (v1 + q2.1)), some (.inl (v2 + 1))]) (S' := []) (M' := q2.2) rfl rfl rfl rfl ?_
      refine zg_goto (tgt := 22) dX4_scrub_38 rfl ?_
      refine zg_st (pc' := 22) (L' := [some (.inr 0), some (.inl (v1 + q2.1)), some (.inl (v2 + 1))]) (S' := []) (M' := q2.2) rfl rfl rfl rfl ?_
      refine zg_drop (L' := [some (.inr 0), some (.inl (v1 + q2.1)), some (.inl (v2 + 1))]) ⟨rfl, rfl, rfl, trivial⟩ ?_
      exact ih (v1 + q2.1) (v2 + 1) q2.2 (z_up c24 hm)
def f_X4_scrub (M : Mem) : (Int32 × Mem) :=
  if (f_X4_canFetch 52 M) then zlet (f_X4_healEveryCell 52 M) (fun q1 =>
    zlet (l_X4_scrub_22 5 (0 + q1.1) 0 q1.2) (fun s3 =>
      (s3.1, (mup s3.2.2 0 5 ((s3.2.2 0 5) + s3.1)))))
  else (0, (mup M 0 5 ((M 0 5) + 0)))
set_option maxRecDepth 100000 in
set_option maxHeartbeats 4000000 in
theorem k_X4_scrub (q : ZQ) (M : Mem) : Zc (zgX q) mX4_scrub 0 0 [.inr 0] M (wIM (f_X4_scrub M)) := by
  refine Zc.of (by decide) zi_X4_scrub.1 (Nat.le_of_ble_eq_true rfl) rfl ?_
  show Zg _ _ _ _ _ _ (zlet (f_X4_scrub M) wIM) _ _ _ _
  unfold f_X4_scrub
  refine zg_iconst (v := 0) dX4_scrub_0 rfl ?_
  refine zg_istore_n dX4_scrub_1 (by decide) ?_
  refine zg_st (pc' := 2) (L' := [some (.inr 0), some (.inl 0), none]) (S' := []) (M' := M) rfl rfl rfl rfl ?_
  refine zg_aload_n (x := 0) dX4_scrub_2 rfl ?_
  refine zg_bipush (v := 52) dX4_scrub_3 rfl ?_
  refine zg_cV1 (As := [.inl 52]) (S := []) (v := bI ((f_X4_canFetch 52 M))) dX4_scrub_5 zk_X4_194 (k_X4_canFetch q 52 M) rfl rfl ⟨by decide, by decide⟩ ⟨by decide, by decide⟩ rfl (Nat.le_of_ble_eq_true rfl) ?_
  refine zg_st (pc' := 8) (L' := [some (.inr 0), some (.inl 0), none]) (S' := [.inl (bI ((f_X4_canFetch 52 M)))]) (M' := M) rfl rfl rfl rfl ?_
  refine zg_ifbe (tgt := 41) dX4_scrub_8 rfl (fun c8 => ?_) (fun c8 => ?_)
  · refine zg_st (pc' := 11) (L' := [some (.inr 0), some (.inl 0), none]) (S' := []) (M' := M) rfl rfl rfl rfl ?_
    refine zg_iload_n (x := 0) dX4_scrub_11 rfl ?_
    refine zg_aload_n (x := 0) dX4_scrub_12 rfl ?_
    refine zg_bipush (v := 52) dX4_scrub_13 rfl ?_
    refine zg_cVIM (As := [.inl 52]) (S := [.inl 0]) dX4_scrub_15 zk_X4_197 (k_X4_healEveryCell q 52 M) rfl rfl ⟨by decide, by decide⟩ ⟨by decide, by decide⟩ rfl (Nat.le_of_ble_eq_true rfl) (fun q1 e_q1 => ?_)
    try dsimp only
    refine zg_st (pc' := 18) (L' := [some (.inr 0), some (.inl 0), none]) (S' := [.inl q1.1, .inl 0]) (M' := q1.2) rfl rfl rfl rfl ?_
    refine zg_iadd dX4_scrub_18 ?_
    refine zg_istore_n dX4_scrub_19 (by decide) ?_
    refine zg_st (pc' := 20) (L' := [some (.inr 0), some (.inl (0 + q1.1)), none]) (S' := []) (M' := q1.2) rfl rfl rfl rfl ?_
    refine zg_iconst (v := 0) dX4_scrub_20 rfl ?_
    refine zg_istore_n dX4_scrub_21 (by decide) ?_
    refine zg_st (pc' := 22) (L' := [some (.inr 0), some (.inl (0 + q1.1)), some (.inl 0)]) (S' := []) (M' := q1.2) rfl rfl rfl rfl ?_
    refine zg_asc ?_
    refine zg_drop (L' := [some (.inr 0), some (.inl (0 + q1.1)), some (.inl 0)]) ⟨rfl, rfl, rfl, trivial⟩ ?_
    refine kl_X4_scrub_22 q  (fun s3 => ?_) 5 (0 + q1.1) 0 q1.2 (by decide)
    try dsimp only [Sum.elim_inr]
    refine zg_st (pc' := 41) (L' := [some (.inr 0), some (.inl s3.1), some (.inl s3.2.1)]) (S' := []) (M' := s3.2.2) rfl rfl rfl rfl ?_
    refine zg_aload_n (x := 0) dX4_scrub_41 rfl ?_
    refine zg_dup dX4_scrub_42 ?_
    refine zg_getf (v := .inl (s3.2.2 0 5)) dX4_scrub_43 zf_X4_47 rfl rfl rfl ?_
    refine zg_iload_n (x := s3.1) dX4_scrub_46 rfl ?_
    refine zg_iadd dX4_scrub_47 ?_
    refine zg_putf dX4_scrub_48 zp_X4_47 rfl rfl ?_
    refine zg_iload_n (x := s3.1) dX4_scrub_51 rfl ?_
    exact zg_iret dX4_scrub_52 rfl rfl ⟨by decide, by decide⟩ rfl
  · refine zg_st (pc' := 41) (L' := [some (.inr 0), some (.inl 0), none]) (S' := []) (M' := M) rfl rfl rfl rfl ?_
    refine zg_aload_n (x := 0) dX4_scrub_41 rfl ?_
    refine zg_dup dX4_scrub_42 ?_
    refine zg_getf (v := .inl (M 0 5)) dX4_scrub_43 zf_X4_47 rfl rfl rfl ?_
    refine zg_iload_n (x := 0) dX4_scrub_46 rfl ?_
    refine zg_iadd dX4_scrub_47 ?_
    refine zg_putf dX4_scrub_48 zp_X4_47 rfl rfl ?_
    refine zg_iload_n (x := 0) dX4_scrub_51 rfl ?_
    exact zg_iret dX4_scrub_52 rfl rfl ⟨by decide, by decide⟩ rfl
theorem dX4_healed_0 : decode cX4_healed 0 = .ok (.aload_n 0, 1) := by decide +kernel
theorem dX4_healed_1 : decode cX4_healed 1 = .ok (.getfield 47, 3) := by decide +kernel
theorem dX4_healed_4 : decode cX4_healed 4 = .ok (.ireturn, 1) := by decide +kernel
def f_X4_healed (M : Mem) : Int32 :=
  (M 0 5)
set_option maxRecDepth 100000 in
set_option maxHeartbeats 4000000 in
theorem k_X4_healed (q : ZQ) (M : Mem) : Zc (zgX q) mX4_healed 0 0 [.inr 0] M (wI M (f_X4_healed M)) := by
  refine Zc.of (by decide) zi_X4_healed.1 (Nat.le_of_ble_eq_true rfl) rfl ?_
  show Zg _ _ _ _ _ _ (zlet (f_X4_healed M) (wI M)) _ _ _ _
  unfold f_X4_healed
  refine zg_aload_n (x := 0) dX4_healed_0 rfl ?_
  refine zg_getf (v := .inl (M 0 5)) dX4_healed_1 zf_X4_47 rfl rfl rfl ?_
  exact zg_iret dX4_healed_4 rfl rfl ⟨by decide, by decide⟩ rfl
theorem dX4_lost_0 : decode cX4_lost 0 = .ok (.iconst 0, 1) := by decide +kernel
theorem dX4_lost_1 : decode cX4_lost 1 = .ok (.istore_n 1, 1) := by decide +kernel
theorem dX4_lost_2 : decode cX4_lost 2 = .ok (.iconst 0, 1) := by decide +kernel
theorem dX4_lost_3 : decode cX4_lost 3 = .ok (.istore_n 2, 1) := by decide +kernel
theorem dX4_lost_4 : decode cX4_lost 4 = .ok (.iload_n 2, 1) := by decide +kernel
theorem dX4_lost_5 : decode cX4_lost 5 = .ok (.iconst 4, 1) := by decide +kernel
theorem dX4_lost_6 : decode cX4_lost 6 = .ok (.if_icmp .ge 87, 3) := by decide +kernel
theorem dX4_lost_9 : decode cX4_lost 9 = .ok (.aload_n 0, 1) := by decide +kernel
theorem dX4_lost_10 : decode cX4_lost 10 = .ok (.bipush 52, 2) := by decide +kernel
theorem dX4_lost_12 : decode cX4_lost 12 = .ok (.invokevirtual 194, 3) := by decide +kernel
theorem dX4_lost_15 : decode cX4_lost 15 = .ok (.ifCond .eq 18, 3) := by decide +kernel
theorem dX4_lost_18 : decode cX4_lost 18 = .ok (.aload_n 0, 1) := by decide +kernel
theorem dX4_lost_19 : decode cX4_lost 19 = .ok (.iload_n 2, 1) := by decide +kernel
theorem dX4_lost_20 : decode cX4_lost 20 = .ok (.invokestatic 93, 3) := by decide +kernel
theorem dX4_lost_23 : decode cX4_lost 23 = .ok (.invokevirtual 194, 3) := by decide +kernel
theorem dX4_lost_26 : decode cX4_lost 26 = .ok (.ifCond .eq 7, 3) := by decide +kernel
theorem dX4_lost_29 : decode cX4_lost 29 = .ok (.iconst 1, 1) := by decide +kernel
theorem dX4_lost_30 : decode cX4_lost 30 = .ok (.goto 4, 3) := by decide +kernel
theorem dX4_lost_33 : decode cX4_lost 33 = .ok (.iconst 0, 1) := by decide +kernel
theorem dX4_lost_34 : decode cX4_lost 34 = .ok (.istore_n 3, 1) := by decide +kernel
theorem dX4_lost_35 : decode cX4_lost 35 = .ok (.iconst 0, 1) := by decide +kernel
theorem dX4_lost_36 : decode cX4_lost 36 = .ok (.istore 4, 2) := by decide +kernel
theorem dX4_lost_38 : decode cX4_lost 38 = .ok (.iload 4, 2) := by decide +kernel
theorem dX4_lost_40 : decode cX4_lost 40 = .ok (.bipush 12, 2) := by decide +kernel
theorem dX4_lost_42 : decode cX4_lost 42 = .ok (.if_icmp .ge 45, 3) := by decide +kernel
theorem dX4_lost_45 : decode cX4_lost 45 = .ok (.iload_n 2, 1) := by decide +kernel
theorem dX4_lost_46 : decode cX4_lost 46 = .ok (.iload 4, 2) := by decide +kernel
theorem dX4_lost_48 : decode cX4_lost 48 = .ok (.invokestatic 66, 3) := by decide +kernel
theorem dX4_lost_51 : decode cX4_lost 51 = .ok (.istore 5, 2) := by decide +kernel
theorem dX4_lost_53 : decode cX4_lost 53 = .ok (.aload_n 0, 1) := by decide +kernel
theorem dX4_lost_54 : decode cX4_lost 54 = .ok (.getfield 19, 3) := by decide +kernel
theorem dX4_lost_57 : decode cX4_lost 57 = .ok (.iload 5, 2) := by decide +kernel
theorem dX4_lost_59 : decode cX4_lost 59 = .ok (.invokevirtual 203, 3) := by decide +kernel
theorem dX4_lost_62 : decode cX4_lost 62 = .ok (.ifCond .ne 19, 3) := by decide +kernel
theorem dX4_lost_65 : decode cX4_lost 65 = .ok (.iload_n 3, 1) := by decide +kernel
theorem dX4_lost_66 : decode cX4_lost 66 = .ok (.ifCond .eq 12, 3) := by decide +kernel
theorem dX4_lost_69 : decode cX4_lost 69 = .ok (.aload_n 0, 1) := by decide +kernel
theorem dX4_lost_70 : decode cX4_lost 70 = .ok (.iload 5, 2) := by decide +kernel
theorem dX4_lost_72 : decode cX4_lost 72 = .ok (.invokevirtual 194, 3) := by decide +kernel
theorem dX4_lost_75 : decode cX4_lost 75 = .ok (.ifCond .ne 6, 3) := by decide +kernel
theorem dX4_lost_78 : decode cX4_lost 78 = .ok (.iinc 1 1, 3) := by decide +kernel
theorem dX4_lost_81 : decode cX4_lost 81 = .ok (.iinc 4 1, 3) := by decide +kernel
theorem dX4_lost_84 : decode cX4_lost 84 = .ok (.goto (-46), 3) := by decide +kernel
theorem dX4_lost_87 : decode cX4_lost 87 = .ok (.iinc 2 1, 3) := by decide +kernel
theorem dX4_lost_90 : decode cX4_lost 90 = .ok (.goto (-86), 3) := by decide +kernel
theorem dX4_lost_93 : decode cX4_lost 93 = .ok (.iload_n 1, 1) := by decide +kernel
theorem dX4_lost_94 : decode cX4_lost 94 = .ok (.ireturn, 1) := by decide +kernel
def b_X4_lost_38 (x2 : Int32) (x3 : Bool) (M : Mem) (rec : Int32 → Int32 → Int32 × Int32) (v1 : Int32) (v4 : Int32) : Int32 × Int32 :=
  if 12 ≤ v4 then (v1, v4)
  else if (f_X3_isMissing (f_X4_blockPointer x2 v4) M) then rec v1 (v4 + 1)
  else if x3 then if (f_X4_canFetch (f_X4_blockPointer x2 v4) M) then rec v1 (v4 + 1)
    else rec (v1 + 1) (v4 + 1)
  else rec (v1 + 1) (v4 + 1)
def l_X4_lost_38 (x2 : Int32) (x3 : Bool) (M : Mem) : Nat → Int32 → Int32 → Int32 × Int32
  | 0, v1, v4 => (v1, v4)
  | n + 1, v1, v4 => b_X4_lost_38 x2 x3 M (l_X4_lost_38 x2 x3 M n) v1 v4
set_option maxRecDepth 100000 in
set_option maxHeartbeats 4000000 in
theorem kl_X4_lost_38 (q : ZQ) (x2 : Int32) (x3 : Bool) (M : Mem) {K : Int32 × Int32 → ZR} (hx : ∀ e : Int32 × Int32, Zg (zgX q) mX4_lost 0 0 0 0 (K e) 87 [some (.inr 0), some (.inl e.1), some (.inl x2), some (.inl (bI x3)), some (.inl e.2), none] [] M) :
    ∀ (n : Nat) (v1 : Int32) (v4 : Int32), ((12 : Int32).toInt - (v4 : Int32).toInt).toNat < n → Zg (zgX q) mX4_lost 0 0 0 0 (zlet (l_X4_lost_38 x2 x3 M n v1 v4) K) 38 [some (.inr 0), some (.inl v1), some (.inl x2), some (.inl (bI x3)), some (.inl v4), none] [] M := by
  intro n
  induction n with
  | zero => intro v1 v4 hm; exact absurd hm (Nat.not_lt_zero _)
  | succ n ih =>
    intro v1 v4 hm
    show Zg _ _ _ _ _ _ (zlet (b_X4_lost_38 x2 x3 M (l_X4_lost_38 x2 x3 M n) v1 v4) K) _ _ _ _
    unfold b_X4_lost_38
    refine zg_iload (x := v4) dX4_lost_38 rfl ?_
    refine zg_bipush (v := 12) dX4_lost_40 rfl ?_
    refine zg_icmpz (tgt := 87) dX4_lost_42 rfl rfl (fun c42 => ?_) (fun c42 => ?_)
    · refine zg_st (pc' := 87) (L' := [some (.inr 0), some (.inl v1), some (.inl x2), some (.inl (bI x3)), some (.inl v4), none]) (S' := []) (M' := M) rfl rfl rfl rfl ?_
      refine zg_drop (L' := [some (.inr 0), some (.inl v1), some (.inl x2), some (.inl (bI x3)), some (.inl v4), none]) ⟨rfl, rfl, rfl, rfl, rfl, trivial⟩ ?_
      exact hx (v1, v4)
    · refine zg_st (pc' := 45) (L' := [some (.inr 0), some (.inl v1), some (.inl x2), some (.inl (bI x3)), some (.inl v4), none]) (S' := []) (M' := M) rfl rfl rfl rfl ?_
      refine zg_iload_n (x := x2) dX4_lost_45 rfl ?_
      refine zg_iload (x := v4) dX4_lost_46 rfl ?_
      refine zg_cS1 (As := [.inl x2, .inl v4]) (S := []) (v := (f_X4_blockPointer x2 v4)) dX4_lost_48 zk_X4_66 (k_X4_blockPointer q x2 v4 M) rfl ⟨by decide, by decide⟩ ⟨by decide, by decide⟩ rfl (Nat.le_of_ble_eq_true rfl) ?_
      refine zg_st (pc' := 51) (L' := [some (.inr 0), some (.inl v1), some (.inl x2), some (.inl (bI x3)), some (.inl v4), none]) (S' := [.inl (f_X4_blockPointer x2 v4)]) (M' := M) rfl rfl rfl rfl ?_
      refine zg_istore dX4_lost_51 (by decide) ?_
      refine zg_st (pc' := 53) (L' := [some (.inr 0), some (.inl v1), some (.inl x2), some (.inl (bI x3)), some (.inl v4), some (.inl (f_X4_blockPointer x2 v4))]) (S' := []) (M' := M) rfl rfl rfl rfl ?_
      refine zg_aload_n (x := 0) dX4_lost_53 rfl ?_
      refine zg_getf (v := .inr 2) dX4_lost_54 zf_X4_19 rfl rfl rfl ?_
      refine zg_iload (x := (f_X4_blockPointer x2 v4)) dX4_lost_57 rfl ?_
      refine zg_cV1 (As := [.inl (f_X4_blockPointer x2 v4)]) (S := []) (v := bI ((f_X3_isMissing (f_X4_blockPointer x2 v4) M))) dX4_lost_59 zk_X4_203 (k_X3_isMissing q (f_X4_blockPointer x2 v4) M) rfl rfl ⟨by decide, by decide⟩ ⟨by decide, by decide⟩ rfl (Nat.le_of_ble_eq_true rfl) ?_
      refine zg_st (pc' := 62) (L' := [some (.inr 0), some (.inl v1), some (.inl x2), some (.inl (bI x3)), some (.inl v4), some (.inl (f_X4_blockPointer x2 v4))]) (S' := [.inl (bI ((f_X3_isMissing (f_X4_blockPointer x2 v4) M)))]) (M' := M) rfl rfl rfl rfl ?_
      refine zg_ifbn (tgt := 81) dX4_lost_62 rfl (fun c62 => ?_) (fun c62 => ?_)
      · refine zg_st (pc' := 81) (L' := [some (.inr 0), some (.inl v1), some (.inl x2), some (.inl (bI x3)), some (.inl v4), some (.inl (f_X4_blockPointer x2 v4))]) (S' := []) (M' := M) rfl rfl rfl rfl ?_
        refine zg_iinc (v := (v4 + 1)) dX4_lost_81 rfl (by decide) rfl ?_
        refine zg_st (pc' := 84) (L' := [some (.inr 0), some (.inl v1), some (.inl x2), some (.inl (bI x3)), some (.inl (v4 + 1)), some (.inl (f_X4_blockPointer x2 v4))]) (S' := []) (M' := M) rfl rfl rfl rfl ?_
        refine zg_goto (tgt := 38) dX4_lost_84 rfl ?_
        refine zg_st (pc' := 38) (L' := [some (.inr 0), some (.inl v1), some (.inl x2), some (.inl (bI x3)), some (.inl (v4 + 1)), some (.inl (f_X4_blockPointer x2 v4))]) (S' := []) (M' := M) rfl rfl rfl rfl ?_
        refine zg_drop (L' := [some (.inr 0), some (.inl v1), some (.inl x2), some (.inl (bI x3)), some (.inl (v4 + 1)), none]) ⟨rfl, rfl, rfl, rfl, rfl, trivial⟩ ?_
        exact ih v1 (v4 + 1) (z_up c42 hm)
      · refine zg_st (pc' := 65) (L' := [some (.inr 0), some (.inl v1), some (.inl x2), some (.inl (bI x3)), some (.inl v4), some (.inl (f_X4_blockPointer x2 v4))]) (S' := []) (M' := M) rfl rfl rfl rfl ?_
        refine zg_iload_n (x := bI x3) dX4_lost_65 rfl ?_
        refine zg_ifbe (tgt := 78) dX4_lost_66 rfl (fun c66 => ?_) (fun c66 => ?_)
        · refine zg_st (pc' := 69) (L' := [some (.inr 0), some (.inl v1), some (.inl x2), some (.inl (bI x3)), some (.inl v4), some (.inl (f_X4_blockPointer x2 v4))]) (S' := []) (M' := M) rfl rfl rfl rfl ?_
          refine zg_aload_n (x := 0) dX4_lost_69 rfl ?_
          refine zg_iload (x := (f_X4_blockPointer x2 v4)) dX4_lost_70 rfl ?_
          refine zg_cV1 (As := [.inl (f_X4_blockPointer x2 v4)]) (S := []) (v := bI ((f_X4_canFetch (f_X4_blockPointer x2 v4) M))) dX4_lost_72 zk_X4_194 (k_X4_canFetch q (f_X4_blockPointer x2 v4) M) rfl rfl ⟨by decide, by decide⟩ ⟨by decide, by decide⟩ rfl (Nat.le_of_ble_eq_true rfl) ?_
          refine zg_st (pc' := 75) (L' := [some (.inr 0), some (.inl v1), some (.inl x2), some (.inl (bI x3)), some (.inl v4), some (.inl (f_X4_blockPointer x2 v4))]) (S' := [.inl (bI ((f_X4_canFetch (f_X4_blockPointer x2 v4) M)))]) (M' := M) rfl rfl rfl rfl ?_
          refine zg_ifbn (tgt := 81) dX4_lost_75 rfl (fun c75 => ?_) (fun c75 => ?_)
          · refine zg_st (pc' := 81) (L' := [some (.inr 0), some (.inl v1), some (.inl x2), some (.inl (bI x3)), some (.inl v4), some (.inl (f_X4_blockPointer x2 v4))]) (S' := []) (M' := M) rfl rfl rfl rfl ?_
            refine zg_iinc (v := (v4 + 1)) dX4_lost_81 rfl (by decide) rfl ?_
            refine zg_st (pc' := 84) (L' := [some (.inr 0), some (.inl v1), some (.inl x2), some (.inl (bI x3)), some (.inl (v4 + 1)), some (.inl (f_X4_blockPointer x2 v4))]) (S' := []) (M' := M) rfl rfl rfl rfl ?_
            refine zg_goto (tgt := 38) dX4_lost_84 rfl ?_
            refine zg_st (pc' := 38) (L' := [some (.inr 0), some (.inl v1), some (.inl x2), some (.inl (bI x3)), some (.inl (v4 + 1)), some (.inl (f_X4_blockPointer x2 v4))]) (S' := []) (M' := M) rfl rfl rfl rfl ?_
            refine zg_drop (L' := [some (.inr 0), some (.inl v1), some (.inl x2), some (.inl (bI x3)), some (.inl (v4 + 1)), none]) ⟨rfl, rfl, rfl, rfl, rfl, trivial⟩ ?_
            exact ih v1 (v4 + 1) (z_up c42 hm)
          · refine zg_st (pc' := 78) (L' := [some (.inr 0), some (.inl v1), some (.inl x2), some (.inl (bI x3)), some (.inl v4), some (.inl (f_X4_blockPointer x2 v4))]) (S' := []) (M' := M) rfl rfl rfl rfl ?_
            refine zg_iinc (v := (v1 + 1)) dX4_lost_78 rfl (by decide) rfl ?_
            refine zg_st (pc' := 81) (L' := [some (.inr 0), some (.inl (v1 + 1)), some (.inl x2), some (.inl (bI x3)), some (.inl v4), some (.inl (f_X4_blockPointer x2 v4))]) (S' := []) (M' := M) rfl rfl rfl rfl ?_
            refine zg_iinc (v := (v4 + 1)) dX4_lost_81 rfl (by decide) rfl ?_
            refine zg_st (pc' := 84) (L' := [some (.inr 0), some (.inl (v1 + 1)), some (.inl x2), some (.inl (bI x3)), some (.inl (v4 + 1)), some (.inl (f_X4_blockPointer x2 v4))]) (S' := []) (M' := M) rfl rfl rfl rfl ?_
            refine zg_goto (tgt := 38) dX4_lost_84 rfl ?_
            refine zg_st (pc' := 38) (L' := [some (.inr 0), some (.inl (v1 + 1)), some (.inl x2), some (.inl (bI x3)), some (.inl (v4 + 1)), some (.inl (f_X4_blockPointer x2 v4))]) (S' := []) (M' := M) rfl rfl rfl rfl ?_
            refine zg_drop (L' := [some (.inr 0), some (.inl (v1 + 1)), some (.inl x2), some (.inl (bI x3)), some (.inl (v4 + 1)), none]) ⟨rfl, rfl, rfl, rfl, rfl, trivial⟩ ?_
            exact ih (v1 + 1) (v4 + 1) (z_up c42 hm)
        · refine zg_st (pc' := 78) (L' := [some (.inr 0), some (.inl v1), some (.inl x2), some (.inl (bI x3)), some (.inl v4), some (.inl (f_X4_blockPointer x2 v4))]) (S' := []) (M' := M) rfl rfl rfl rfl ?_
          refine zg_iinc (v := (v1 + 1)) dX4_lost_78 rfl (by decide) rfl ?_
          refine zg_st (pc' := 81) (L' := [some (.inr 0), some (.inl (v1 + 1)), some (.inl x2), some (.inl (bI x3)), some (.inl v4), some (.inl (f_X4_blockPointer x2 v4))]) (S' := []) (M' := M) rfl rfl rfl rfl ?_
          refine zg_iinc (v := (v4 + 1)) dX4_lost_81 rfl (by decide) rfl ?_
          refine zg_st (pc' := 84) (L' := [some (.inr 0), some (.inl (v1 + 1)), some (.inl x2), some (.inl (bI x3)), some (.inl (v4 + 1)), some (.inl (f_X4_blockPointer x2 v4))]) (S' := []) (M' := M) rfl rfl rfl rfl ?_
          refine zg_goto (tgt := 38) dX4_lost_84 rfl ?_
          refine zg_st (pc' := 38) (L' := [some (.inr 0), some (.inl (v1 + 1)), some (.inl x2), some (.inl (bI x3)), some (.inl (v4 + 1)), some (.inl (f_X4_blockPointer x2 v4))]) (S' := []) (M' := M) rfl rfl rfl rfl ?_
          refine zg_drop (L' := [some (.inr 0), some (.inl (v1 + 1)), some (.inl x2), some (.inl (bI x3)), some (.inl (v4 + 1)), none]) ⟨rfl, rfl, rfl, rfl, rfl, trivial⟩ ?_
          exact ih (v1 + 1) (v4 + 1) (z_up c42 hm)
def b_X4_lost_4 (M : Mem) (rec : Int32 → Int32 → Int32 × Int32) (v1 : Int32) (v2 : Int32) : Int32 × Int32 :=
  if 4 ≤ v2 then (v1, v2)
  else zlet (if (f_X4_canFetch 52 M) then if (f_X4_canFetch (f_X4_filePointer v2) M) then true
      else false
    else false) (fun (j1 : Bool) =>
  zlet (l_X4_lost_38 v2 j1 M 13 v1 0) (fun s3 =>
    rec s3.1 (v2 + 1)))
def l_X4_lost_4 (M : Mem) : Nat → Int32 → Int32 → Int32 × Int32
  | 0, v1, v2 => (v1, v2)
  | n + 1, v1, v2 => b_X4_lost_4 M (l_X4_lost_4 M n) v1 v2
set_option maxRecDepth 100000 in
set_option maxHeartbeats 4000000 in
theorem kl_X4_lost_4 (q : ZQ) (M : Mem) {K : Int32 × Int32 → ZR} (hx : ∀ e : Int32 × Int32, Zg (zgX q) mX4_lost 0 0 0 0 (K e) 93 [some (.inr 0), some (.inl e.1), some (.inl e.2), none, none, none] [] M) :
    ∀ (n : Nat) (v1 : Int32) (v2 : Int32), ((4 : Int32).toInt - (v2 : Int32).toInt).toNat < n → Zg (zgX q) mX4_lost 0 0 0 0 (zlet (l_X4_lost_4 M n v1 v2) K) 4 [some (.inr 0), some (.inl v1), some (.inl v2), none, none, none] [] M := by
  intro n
  induction n with
  | zero => intro v1 v2 hm; exact absurd hm (Nat.not_lt_zero _)
  | succ n ih =>
    intro v1 v2 hm
    show Zg _ _ _ _ _ _ (zlet (b_X4_lost_4 M (l_X4_lost_4 M n) v1 v2) K) _ _ _ _
    unfold b_X4_lost_4
    refine zg_iload_n (x := v2) dX4_lost_4 rfl ?_
    refine zg_iconst (v := 4) dX4_lost_5 rfl ?_
    refine zg_icmpz (tgt := 93) dX4_lost_6 rfl rfl (fun c6 => ?_) (fun c6 => ?_)
    · refine zg_st (pc' := 93) (L' := [some (.inr 0), some (.inl v1), some (.inl v2), none, none, none]) (S' := []) (M' := M) rfl rfl rfl rfl ?_
      refine zg_drop (L' := [some (.inr 0), some (.inl v1), some (.inl v2), none, none, none]) ⟨rfl, rfl, rfl, trivial⟩ ?_
      exact hx (v1, v2)
    · refine zg_st (pc' := 9) (L' := [some (.inr 0), some (.inl v1), some (.inl v2), none, none, none]) (S' := []) (M' := M) rfl rfl rfl rfl ?_
      refine zg_aload_n (x := 0) dX4_lost_9 rfl ?_
      refine zg_bipush (v := 52) dX4_lost_10 rfl ?_
      refine zg_cV1 (As := [.inl 52]) (S := []) (v := bI ((f_X4_canFetch 52 M))) dX4_lost_12 zk_X4_194 (k_X4_canFetch q 52 M) rfl rfl ⟨by decide, by decide⟩ ⟨by decide, by decide⟩ rfl (Nat.le_of_ble_eq_true rfl) ?_
      refine zg_st (pc' := 15) (L' := [some (.inr 0), some (.inl v1), some (.inl v2), none, none, none]) (S' := [.inl (bI ((f_X4_canFetch 52 M)))]) (M' := M) rfl rfl rfl rfl ?_
      refine zg_join (pc' := 34) (Lf := fun (j1 : Bool) => [some (.inr 0), some (.inl v1), some (.inl v2), none, none, none]) (Sf := fun j1 => [.inl (bI j1)]) (Mf := fun j1 => M) (fun (j1 : Bool) => ?_) (fun J2 => ?_)
      · try dsimp only
        refine zg_istore_n dX4_lost_34 (by decide) ?_
        refine zg_st (pc' := 35) (L' := [some (.inr 0), some (.inl v1), some (.inl v2), some (.inl (bI j1)), none, none]) (S' := []) (M' := M) rfl rfl rfl rfl ?_
        refine zg_iconst (v := 0) dX4_lost_35 rfl ?_
        refine zg_istore dX4_lost_36 (by decide) ?_
        refine zg_st (pc' := 38) (L' := [some (.inr 0), some (.inl v1), some (.inl v2), some (.inl (bI j1)), some (.inl 0), none]) (S' := []) (M' := M) rfl rfl rfl rfl ?_
        refine zg_asc ?_
        refine zg_drop (L' := [some (.inr 0), some (.inl v1), some (.inl v2), some (.inl (bI j1)), some (.inl 0), none]) ⟨rfl, rfl, rfl, rfl, rfl, trivial⟩ ?_
        refine kl_X4_lost_38 q v2 j1 M (fun s3 => ?_) 13 v1 0 (by decide)
        try dsimp only [Sum.elim_inr]
        refine zg_st (pc' := 87) (L' := [some (.inr 0), some (.inl s3.1), some (.inl v2), some (.inl (bI j1)), some (.inl s3.2), none]) (S' := []) (M' := M) rfl rfl rfl rfl ?_
        refine zg_iinc (v := (v2 + 1)) dX4_lost_87 rfl (by decide) rfl ?_
        refine zg_st (pc' := 90) (L' := [some (.inr 0), some (.inl s3.1), some (.inl (v2 + 1)), some (.inl (bI j1)), some (.inl s3.2), none]) (S' := []) (M' := M) rfl rfl rfl rfl ?_
        refine zg_goto (tgt := 4) dX4_lost_90 rfl ?_
        refine zg_st (pc' := 4) (L' := [some (.inr 0), some (.inl s3.1), some (.inl (v2 + 1)), some (.inl (bI j1)), some (.inl s3.2), none]) (S' := []) (M' := M) rfl rfl rfl rfl ?_
        refine zg_drop (L' := [some (.inr 0), some (.inl s3.1), some (.inl (v2 + 1)), none, none, none]) ⟨rfl, rfl, rfl, trivial⟩ ?_
        exact ih s3.1 (v2 + 1) (z_up c6 hm)
      · refine zg_ifbe (tgt := 33) dX4_lost_15 rfl (fun c15 => ?_) (fun c15 => ?_)
        · refine zg_st (pc' := 18) (L' := [some (.inr 0), some (.inl v1), some (.inl v2), none, none, none]) (S' := []) (M' := M) rfl rfl rfl rfl ?_
          refine zg_aload_n (x := 0) dX4_lost_18 rfl ?_
          refine zg_iload_n (x := v2) dX4_lost_19 rfl ?_
          refine zg_cS1 (As := [.inl v2]) (S := [.inr 0]) (v := (f_X4_filePointer v2)) dX4_lost_20 zk_X4_93 (k_X4_filePointer q v2 M) rfl ⟨by decide, by decide⟩ ⟨by decide, by decide⟩ rfl (Nat.le_of_ble_eq_true rfl) ?_
          refine zg_st (pc' := 23) (L' := [some (.inr 0), some (.inl v1), some (.inl v2), none, none, none]) (S' := [.inl (f_X4_filePointer v2), .inr 0]) (M' := M) rfl rfl rfl rfl ?_
          refine zg_cV1 (As := [.inl (f_X4_filePointer v2)]) (S := []) (v := bI ((f_X4_canFetch (f_X4_filePointer v2) M))) dX4_lost_23 zk_X4_194 (k_X4_canFetch q (f_X4_filePointer v2) M) rfl rfl ⟨by decide, by decide⟩ ⟨by decide, by decide⟩ rfl (Nat.le_of_ble_eq_true rfl) ?_
          refine zg_st (pc' := 26) (L' := [some (.inr 0), some (.inl v1), some (.inl v2), none, none, none]) (S' := [.inl (bI ((f_X4_canFetch (f_X4_filePointer v2) M)))]) (M' := M) rfl rfl rfl rfl ?_
          refine zg_ifbe (tgt := 33) dX4_lost_26 rfl (fun c26 => ?_) (fun c26 => ?_)
          · refine zg_st (pc' := 29) (L' := [some (.inr 0), some (.inl v1), some (.inl v2), none, none, none]) (S' := []) (M' := M) rfl rfl rfl rfl ?_
            refine zg_iconst (v := 1) dX4_lost_29 rfl ?_
            refine zg_goto (tgt := 34) dX4_lost_30 rfl ?_
            refine zg_st (pc' := 34) (L' := [some (.inr 0), some (.inl v1), some (.inl v2), none, none, none]) (S' := [.inl 1]) (M' := M) rfl rfl rfl rfl ?_
            refine zg_drop (L' := [some (.inr 0), some (.inl v1), some (.inl v2), none, none, none]) ⟨rfl, rfl, rfl, trivial⟩ ?_
            exact J2 true
          · refine zg_st (pc' := 33) (L' := [some (.inr 0), some (.inl v1), some (.inl v2), none, none, none]) (S' := []) (M' := M) rfl rfl rfl rfl ?_
            refine zg_iconst (v := 0) dX4_lost_33 rfl ?_
            refine zg_drop (L' := [some (.inr 0), some (.inl v1), some (.inl v2), none, none, none]) ⟨rfl, rfl, rfl, trivial⟩ ?_
            exact J2 false
        · refine zg_st (pc' := 33) (L' := [some (.inr 0), some (.inl v1), some (.inl v2), none, none, none]) (S' := []) (M' := M) rfl rfl rfl rfl ?_
          refine zg_iconst (v := 0) dX4_lost_33 rfl ?_
          refine zg_drop (L' := [some (.inr 0), some (.inl v1), some (.inl v2), none, none, none]) ⟨rfl, rfl, rfl, trivial⟩ ?_
          exact J2 false
def f_X4_lost (M : Mem) : Int32 :=
  zlet (l_X4_lost_4 M 5 0 0) (fun s4 =>
  s4.1)
set_option maxRecDepth 100000 in
set_option maxHeartbeats 4000000 in
theorem k_X4_lost (q : ZQ) (M : Mem) : Zc (zgX q) mX4_lost 0 0 [.inr 0] M (wI M (f_X4_lost M)) := by
  refine Zc.of (by decide) zi_X4_lost.1 (Nat.le_of_ble_eq_true rfl) rfl ?_
  show Zg _ _ _ _ _ _ (zlet (f_X4_lost M) (wI M)) _ _ _ _
  unfold f_X4_lost
  refine zg_iconst (v := 0) dX4_lost_0 rfl ?_
  refine zg_istore_n dX4_lost_1 (by decide) ?_
  refine zg_st (pc' := 2) (L' := [some (.inr 0), some (.inl 0), none, none, none, none]) (S' := []) (M' := M) rfl rfl rfl rfl ?_
  refine zg_iconst (v := 0) dX4_lost_2 rfl ?_
  refine zg_istore_n dX4_lost_3 (by decide) ?_
  refine zg_st (pc' := 4) (L' := [some (.inr 0), some (.inl 0), some (.inl 0), none, none, none]) (S' := []) (M' := M) rfl rfl rfl rfl ?_
  refine zg_asc ?_
  refine zg_drop (L' := [some (.inr 0), some (.inl 0), some (.inl 0), none, none, none]) ⟨rfl, rfl, rfl, trivial⟩ ?_
  refine kl_X4_lost_4 q M (fun s4 => ?_) 5 0 0 (by decide)
  try dsimp only [Sum.elim_inr]
  refine zg_st (pc' := 93) (L' := [some (.inr 0), some (.inl s4.1), some (.inl s4.2), none, none, none]) (S' := []) (M' := M) rfl rfl rfl rfl ?_
  refine zg_iload_n (x := s4.1) dX4_lost_93 rfl ?_
  exact zg_iret dX4_lost_94 rfl rfl ⟨by decide, by decide⟩ rfl
theorem dX4_places_0 : decode cX4_places 0 = .ok (.iload_n 1, 1) := by decide +kernel
theorem dX4_places_1 : decode cX4_places 1 = .ok (.iload_n 2, 1) := by decide +kernel
theorem dX4_places_2 : decode cX4_places 2 = .ok (.invokestatic 51, 3) := by decide +kernel
theorem dX4_places_5 : decode cX4_places 5 = .ok (.ifCond .ne 13, 3) := by decide +kernel
theorem dX4_places_8 : decode cX4_places 8 = .ok (.new 55, 3) := by decide +kernel
theorem dX4_places_11 : decode cX4_places 11 = .ok (.dup, 1) := by decide +kernel
theorem dX4_places_12 : decode cX4_places 12 = .ok (.ldc 84, 2) := by decide +kernel
theorem dX4_places_14 : decode cX4_places 14 = .ok (.invokespecial 59, 3) := by decide +kernel
theorem dX4_places_17 : decode cX4_places 17 = .ok (.athrow, 1) := by decide +kernel
theorem dX4_places_18 : decode cX4_places 18 = .ok (.aload_n 0, 1) := by decide +kernel
theorem dX4_places_19 : decode cX4_places 19 = .ok (.getfield 19, 3) := by decide +kernel
theorem dX4_places_22 : decode cX4_places 22 = .ok (.iload_n 1, 1) := by decide +kernel
theorem dX4_places_23 : decode cX4_places 23 = .ok (.iload_n 2, 1) := by decide +kernel
theorem dX4_places_24 : decode cX4_places 24 = .ok (.invokestatic 66, 3) := by decide +kernel
theorem dX4_places_27 : decode cX4_places 27 = .ok (.invokevirtual 206, 3) := by decide +kernel
theorem dX4_places_30 : decode cX4_places 30 = .ok (.ireturn, 1) := by decide +kernel
def f_X4_places (p1 : Int32) (p2 : Int32) (M : Mem) : (Int32 ⊕ String) :=
  if (f_X4_isBlockOfFile p1 p2) then .inl (f_X3_countPlaces (f_X4_blockPointer p1 p2) M)
  else .inr "java/lang/IllegalArgumentException"
set_option maxRecDepth 100000 in
set_option maxHeartbeats 4000000 in
theorem k_X4_places (q : ZQ) (hq : q.1.stackTraces = false) (p1 : Int32) (p2 : Int32) (M : Mem) : Zc (zgX q) mX4_places 1 6 [.inr 0, .inl p1, .inl p2] M (xI M (f_X4_places p1 p2 M)) := by
  refine Zc.of (by decide) zi_X4_places.1 (Nat.le_of_ble_eq_true rfl) rfl ?_
  show Zg _ _ _ _ _ _ (zlet (f_X4_places p1 p2 M) (xI M)) _ _ _ _
  unfold f_X4_places
  refine zg_iload_n (x := p1) dX4_places_0 rfl ?_
  refine zg_iload_n (x := p2) dX4_places_1 rfl ?_
  refine zg_cS1 (As := [.inl p1, .inl p2]) (S := []) (v := bI ((f_X4_isBlockOfFile p1 p2))) dX4_places_2 zk_X4_51 (k_X4_isBlockOfFile q p1 p2 M) rfl ⟨by decide, by decide⟩ ⟨by decide, by decide⟩ rfl (Nat.le_of_ble_eq_true rfl) ?_
  refine zg_st (pc' := 5) (L' := [some (.inr 0), some (.inl p1), some (.inl p2)]) (S' := [.inl (bI ((f_X4_isBlockOfFile p1 p2)))]) (M' := M) rfl rfl rfl rfl ?_
  refine zg_ifbn (tgt := 18) dX4_places_5 rfl (fun c5 => ?_) (fun c5 => ?_)
  · refine zg_st (pc' := 18) (L' := [some (.inr 0), some (.inl p1), some (.inl p2)]) (S' := []) (M' := M) rfl rfl rfl rfl ?_
    refine zg_aload_n (x := 0) dX4_places_18 rfl ?_
    refine zg_getf (v := .inr 2) dX4_places_19 zf_X4_19 rfl rfl rfl ?_
    refine zg_iload_n (x := p1) dX4_places_22 rfl ?_
    refine zg_iload_n (x := p2) dX4_places_23 rfl ?_
    refine zg_cS1 (As := [.inl p1, .inl p2]) (S := [.inr 2]) (v := (f_X4_blockPointer p1 p2)) dX4_places_24 zk_X4_66 (k_X4_blockPointer q p1 p2 M) rfl ⟨by decide, by decide⟩ ⟨by decide, by decide⟩ rfl (Nat.le_of_ble_eq_true rfl) ?_
    refine zg_st (pc' := 27) (L' := [some (.inr 0), some (.inl p1), some (.inl p2)]) (S' := [.inl (f_X4_blockPointer p1 p2), .inr 2]) (M' := M) rfl rfl rfl rfl ?_
    refine zg_cV1 (As := [.inl (f_X4_blockPointer p1 p2)]) (S := []) (v := (f_X3_countPlaces (f_X4_blockPointer p1 p2) M)) dX4_places_27 zk_X4_206 (k_X3_countPlaces q (f_X4_blockPointer p1 p2) M) rfl rfl ⟨by decide, by decide⟩ ⟨by decide, by decide⟩ rfl (Nat.le_of_ble_eq_true rfl) ?_
    refine zg_st (pc' := 30) (L' := [some (.inr 0), some (.inl p1), some (.inl p2)]) (S' := [.inl (f_X3_countPlaces (f_X4_blockPointer p1 p2) M)]) (M' := M) rfl rfl rfl rfl ?_
    exact zg_iret dX4_places_30 rfl rfl ⟨by decide, by decide⟩ rfl
  · refine zg_st (pc' := 8) (L' := [some (.inr 0), some (.inl p1), some (.inl p2)]) (S' := []) (M' := M) rfl rfl rfl rfl ?_
    exact zg_throw (text := "file or block is out of range") hq zt_55 rfl (by decide) dX4_places_8 dX4_places_11 dX4_places_12 dX4_places_14 dX4_places_17 (by decide) (Nat.le_of_ble_eq_true rfl) (by decide) (by decide) rfl
theorem dX4_told_0 : decode cX4_told 0 = .ok (.iload_n 0, 1) := by decide +kernel
theorem dX4_told_1 : decode cX4_told 1 = .ok (.invokestatic 223, 3) := by decide +kernel
theorem dX4_told_4 : decode cX4_told 4 = .ok (.ifCond .ne 13, 3) := by decide +kernel
theorem dX4_told_7 : decode cX4_told 7 = .ok (.new 110, 3) := by decide +kernel
theorem dX4_told_10 : decode cX4_told 10 = .ok (.dup, 1) := by decide +kernel
theorem dX4_told_11 : decode cX4_told 11 = .ok (.ldc 226, 2) := by decide +kernel
theorem dX4_told_13 : decode cX4_told 13 = .ok (.invokespecial 114, 3) := by decide +kernel
theorem dX4_told_16 : decode cX4_told 16 = .ok (.athrow, 1) := by decide +kernel
theorem dX4_told_17 : decode cX4_told 17 = .ok (.bipush 100, 2) := by decide +kernel
theorem dX4_told_19 : decode cX4_told 19 = .ok (.iload_n 0, 1) := by decide +kernel
theorem dX4_told_20 : decode cX4_told 20 = .ok (.invokestatic 228, 3) := by decide +kernel
theorem dX4_told_23 : decode cX4_told 23 = .ok (.imul, 1) := by decide +kernel
theorem dX4_told_24 : decode cX4_told 24 = .ok (.iload_n 0, 1) := by decide +kernel
theorem dX4_told_25 : decode cX4_told 25 = .ok (.bipush 40, 2) := by decide +kernel
theorem dX4_told_27 : decode cX4_told 27 = .ok (.irem, 1) := by decide +kernel
theorem dX4_told_28 : decode cX4_told 28 = .ok (.iadd, 1) := by decide +kernel
theorem dX4_told_29 : decode cX4_told 29 = .ok (.ireturn, 1) := by decide +kernel
def f_X4_told (p0 : Int32) : (Int32 ⊕ String) :=
  if (f_X4_isPlaceNumber p0) then .inl ((100 * (f_X4_mirrorOf p0)) + (p0 - p0 / 40 * 40))
  else .inr "java/util/NoSuchElementException"
set_option maxRecDepth 100000 in
set_option maxHeartbeats 4000000 in
theorem k_X4_told (q : ZQ) (hq : q.1.stackTraces = false) (p0 : Int32) (M : Mem) : Zc (zgX q) mX4_told 1 6 [.inl p0] M (xI M (f_X4_told p0)) := by
  refine Zc.of (by decide) zi_X4_told.1 (Nat.le_of_ble_eq_true rfl) rfl ?_
  show Zg _ _ _ _ _ _ (zlet (f_X4_told p0) (xI M)) _ _ _ _
  unfold f_X4_told
  refine zg_iload_n (x := p0) dX4_told_0 rfl ?_
  refine zg_cS1 (As := [.inl p0]) (S := []) (v := bI ((f_X4_isPlaceNumber p0))) dX4_told_1 zk_X4_223 (k_X4_isPlaceNumber q p0 M) rfl ⟨by decide, by decide⟩ ⟨by decide, by decide⟩ rfl (Nat.le_of_ble_eq_true rfl) ?_
  refine zg_st (pc' := 4) (L' := [some (.inl p0)]) (S' := [.inl (bI ((f_X4_isPlaceNumber p0)))]) (M' := M) rfl rfl rfl rfl ?_
  refine zg_ifbn (tgt := 17) dX4_told_4 rfl (fun c4 => ?_) (fun c4 => ?_)
  · refine zg_st (pc' := 17) (L' := [some (.inl p0)]) (S' := []) (M' := M) rfl rfl rfl rfl ?_
    refine zg_bipush (v := 100) dX4_told_17 rfl ?_
    refine zg_iload_n (x := p0) dX4_told_19 rfl ?_
    refine zg_cS1 (As := [.inl p0]) (S := [.inl 100]) (v := (f_X4_mirrorOf p0)) dX4_told_20 zk_X4_228 (k_X4_mirrorOf q p0 M) rfl ⟨by decide, by decide⟩ ⟨by decide, by decide⟩ rfl (Nat.le_of_ble_eq_true rfl) ?_
    refine zg_st (pc' := 23) (L' := [some (.inl p0)]) (S' := [.inl (f_X4_mirrorOf p0), .inl 100]) (M' := M) rfl rfl rfl rfl ?_
    refine zg_imul dX4_told_23 ?_
    refine zg_iload_n (x := p0) dX4_told_24 rfl ?_
    refine zg_bipush (v := 40) dX4_told_25 rfl ?_
    refine zg_irem dX4_told_27 (by decide) ?_
    refine zg_iadd dX4_told_28 ?_
    exact zg_iret dX4_told_29 rfl rfl ⟨by decide, by decide⟩ rfl
  · refine zg_st (pc' := 7) (L' := [some (.inl p0)]) (S' := []) (M' := M) rfl rfl rfl rfl ?_
    exact zg_throwN (text := "there is no such place") hq rfl (by decide) dX4_told_7 dX4_told_10 dX4_told_11 dX4_told_13 dX4_told_16 (by decide) (Nat.le_of_ble_eq_true rfl) (by decide) (by decide) rfl
theorem dX4_place_0 : decode cX4_place 0 = .ok (.iload_n 1, 1) := by decide +kernel
theorem dX4_place_1 : decode cX4_place 1 = .ok (.iload_n 2, 1) := by decide +kernel
theorem dX4_place_2 : decode cX4_place 2 = .ok (.invokestatic 51, 3) := by decide +kernel
theorem dX4_place_5 : decode cX4_place 5 = .ok (.ifCond .ne 13, 3) := by decide +kernel
theorem dX4_place_8 : decode cX4_place 8 = .ok (.new 55, 3) := by decide +kernel
theorem dX4_place_11 : decode cX4_place 11 = .ok (.dup, 1) := by decide +kernel
theorem dX4_place_12 : decode cX4_place 12 = .ok (.ldc 84, 2) := by decide +kernel
theorem dX4_place_14 : decode cX4_place 14 = .ok (.invokespecial 59, 3) := by decide +kernel
theorem dX4_place_17 : decode cX4_place 17 = .ok (.athrow, 1) := by decide +kernel
theorem dX4_place_18 : decode cX4_place 18 = .ok (.aload_n 0, 1) := by decide +kernel
theorem dX4_place_19 : decode cX4_place 19 = .ok (.getfield 19, 3) := by decide +kernel
theorem dX4_place_22 : decode cX4_place 22 = .ok (.iload_n 1, 1) := by decide +kernel
theorem dX4_place_23 : decode cX4_place 23 = .ok (.iload_n 2, 1) := by decide +kernel
theorem dX4_place_24 : decode cX4_place 24 = .ok (.invokestatic 66, 3) := by decide +kernel
theorem dX4_place_27 : decode cX4_place 27 = .ok (.iload_n 3, 1) := by decide +kernel
theorem dX4_place_28 : decode cX4_place 28 = .ok (.invokevirtual 209, 3) := by decide +kernel
theorem dX4_place_31 : decode cX4_place 31 = .ok (.invokestatic 212, 3) := by decide +kernel
theorem dX4_place_34 : decode cX4_place 34 = .ok (.ireturn, 1) := by decide +kernel
def f_X4_place (p1 : Int32) (p2 : Int32) (p3 : Int32) (M : Mem) : (Int32 ⊕ String) :=
  if (f_X4_isBlockOfFile p1 p2) then f_X4_told (f_X3_placeOf (f_X4_blockPointer p1 p2) p3 M)
  else .inr "java/lang/IllegalArgumentException"
set_option maxRecDepth 100000 in
set_option maxHeartbeats 4000000 in
theorem k_X4_place (q : ZQ) (hq : q.1.stackTraces = false) (p1 : Int32) (p2 : Int32) (p3 : Int32) (M : Mem) : Zc (zgX q) mX4_place 1 6 [.inr 0, .inl p1, .inl p2, .inl p3] M (xI M (f_X4_place p1 p2 p3 M)) := by
  refine Zc.of (by decide) zi_X4_place.1 (Nat.le_of_ble_eq_true rfl) rfl ?_
  show Zg _ _ _ _ _ _ (zlet (f_X4_place p1 p2 p3 M) (xI M)) _ _ _ _
  unfold f_X4_place
  refine zg_iload_n (x := p1) dX4_place_0 rfl ?_
  refine zg_iload_n (x := p2) dX4_place_1 rfl ?_
  refine zg_cS1 (As := [.inl p1, .inl p2]) (S := []) (v := bI ((f_X4_isBlockOfFile p1 p2))) dX4_place_2 zk_X4_51 (k_X4_isBlockOfFile q p1 p2 M) rfl ⟨by decide, by decide⟩ ⟨by decide, by decide⟩ rfl (Nat.le_of_ble_eq_true rfl) ?_
  refine zg_st (pc' := 5) (L' := [some (.inr 0), some (.inl p1), some (.inl p2), some (.inl p3)]) (S' := [.inl (bI ((f_X4_isBlockOfFile p1 p2)))]) (M' := M) rfl rfl rfl rfl ?_
  refine zg_ifbn (tgt := 18) dX4_place_5 rfl (fun c5 => ?_) (fun c5 => ?_)
  · refine zg_st (pc' := 18) (L' := [some (.inr 0), some (.inl p1), some (.inl p2), some (.inl p3)]) (S' := []) (M' := M) rfl rfl rfl rfl ?_
    refine zg_aload_n (x := 0) dX4_place_18 rfl ?_
    refine zg_getf (v := .inr 2) dX4_place_19 zf_X4_19 rfl rfl rfl ?_
    refine zg_iload_n (x := p1) dX4_place_22 rfl ?_
    refine zg_iload_n (x := p2) dX4_place_23 rfl ?_
    refine zg_cS1 (As := [.inl p1, .inl p2]) (S := [.inr 2]) (v := (f_X4_blockPointer p1 p2)) dX4_place_24 zk_X4_66 (k_X4_blockPointer q p1 p2 M) rfl ⟨by decide, by decide⟩ ⟨by decide, by decide⟩ rfl (Nat.le_of_ble_eq_true rfl) ?_
    refine zg_st (pc' := 27) (L' := [some (.inr 0), some (.inl p1), some (.inl p2), some (.inl p3)]) (S' := [.inl (f_X4_blockPointer p1 p2), .inr 2]) (M' := M) rfl rfl rfl rfl ?_
    refine zg_iload_n (x := p3) dX4_place_27 rfl ?_
    refine zg_cV1 (As := [.inl (f_X4_blockPointer p1 p2), .inl p3]) (S := []) (v := (f_X3_placeOf (f_X4_blockPointer p1 p2) p3 M)) dX4_place_28 zk_X4_209 (k_X3_placeOf q (f_X4_blockPointer p1 p2) p3 M) rfl rfl ⟨by decide, by decide⟩ ⟨by decide, by decide⟩ rfl (Nat.le_of_ble_eq_true rfl) ?_
    refine zg_st (pc' := 31) (L' := [some (.inr 0), some (.inl p1), some (.inl p2), some (.inl p3)]) (S' := [.inl (f_X3_placeOf (f_X4_blockPointer p1 p2) p3 M)]) (M' := M) rfl rfl rfl rfl ?_
    exact zg_cSX (As := [.inl (f_X3_placeOf (f_X4_blockPointer p1 p2) p3 M)]) dX4_place_31 dX4_place_34 rfl zk_X4_212 (k_X4_told q hq (f_X3_placeOf (f_X4_blockPointer p1 p2) p3 M) M) rfl ⟨by decide, by decide⟩ rfl
  · refine zg_st (pc' := 8) (L' := [some (.inr 0), some (.inl p1), some (.inl p2), some (.inl p3)]) (S' := []) (M' := M) rfl rfl rfl rfl ?_
    exact zg_throw (text := "file or block is out of range") hq zt_55 rfl (by decide) dX4_place_8 dX4_place_11 dX4_place_12 dX4_place_14 dX4_place_17 (by decide) (Nat.le_of_ble_eq_true rfl) (by decide) (by decide) rfl
theorem dX4_nodePlace_0 : decode cX4_nodePlace 0 = .ok (.iload_n 1, 1) := by decide +kernel
theorem dX4_nodePlace_1 : decode cX4_nodePlace 1 = .ok (.invokestatic 79, 3) := by decide +kernel
theorem dX4_nodePlace_4 : decode cX4_nodePlace 4 = .ok (.ifCond .ne 13, 3) := by decide +kernel
theorem dX4_nodePlace_7 : decode cX4_nodePlace 7 = .ok (.new 55, 3) := by decide +kernel
theorem dX4_nodePlace_10 : decode cX4_nodePlace 10 = .ok (.dup, 1) := by decide +kernel
theorem dX4_nodePlace_11 : decode cX4_nodePlace 11 = .ok (.ldc 215, 2) := by decide +kernel
theorem dX4_nodePlace_13 : decode cX4_nodePlace 13 = .ok (.invokespecial 59, 3) := by decide +kernel
theorem dX4_nodePlace_16 : decode cX4_nodePlace 16 = .ok (.athrow, 1) := by decide +kernel
theorem dX4_nodePlace_17 : decode cX4_nodePlace 17 = .ok (.aload_n 0, 1) := by decide +kernel
theorem dX4_nodePlace_18 : decode cX4_nodePlace 18 = .ok (.getfield 19, 3) := by decide +kernel
theorem dX4_nodePlace_21 : decode cX4_nodePlace 21 = .ok (.iload_n 1, 1) := by decide +kernel
theorem dX4_nodePlace_22 : decode cX4_nodePlace 22 = .ok (.invokestatic 93, 3) := by decide +kernel
theorem dX4_nodePlace_25 : decode cX4_nodePlace 25 = .ok (.iload_n 2, 1) := by decide +kernel
theorem dX4_nodePlace_26 : decode cX4_nodePlace 26 = .ok (.invokevirtual 209, 3) := by decide +kernel
theorem dX4_nodePlace_29 : decode cX4_nodePlace 29 = .ok (.invokestatic 212, 3) := by decide +kernel
theorem dX4_nodePlace_32 : decode cX4_nodePlace 32 = .ok (.ireturn, 1) := by decide +kernel
def f_X4_nodePlace (p1 : Int32) (p2 : Int32) (M : Mem) : (Int32 ⊕ String) :=
  if (f_X4_isFile p1) then f_X4_told (f_X3_placeOf (f_X4_filePointer p1) p2 M)
  else .inr "java/lang/IllegalArgumentException"
set_option maxRecDepth 100000 in
set_option maxHeartbeats 4000000 in
theorem k_X4_nodePlace (q : ZQ) (hq : q.1.stackTraces = false) (p1 : Int32) (p2 : Int32) (M : Mem) : Zc (zgX q) mX4_nodePlace 1 6 [.inr 0, .inl p1, .inl p2] M (xI M (f_X4_nodePlace p1 p2 M)) := by
  refine Zc.of (by decide) zi_X4_nodePlace.1 (Nat.le_of_ble_eq_true rfl) rfl ?_
  show Zg _ _ _ _ _ _ (zlet (f_X4_nodePlace p1 p2 M) (xI M)) _ _ _ _
  unfold f_X4_nodePlace
  refine zg_iload_n (x := p1) dX4_nodePlace_0 rfl ?_
  refine zg_cS1 (As := [.inl p1]) (S := []) (v := bI ((f_X4_isFile p1))) dX4_nodePlace_1 zk_X4_79 (k_X4_isFile q p1 M) rfl ⟨by decide, by decide⟩ ⟨by decide, by decide⟩ rfl (Nat.le_of_ble_eq_true rfl) ?_
  refine zg_st (pc' := 4) (L' := [some (.inr 0), some (.inl p1), some (.inl p2)]) (S' := [.inl (bI ((f_X4_isFile p1)))]) (M' := M) rfl rfl rfl rfl ?_
  refine zg_ifbn (tgt := 17) dX4_nodePlace_4 rfl (fun c4 => ?_) (fun c4 => ?_)
  · refine zg_st (pc' := 17) (L' := [some (.inr 0), some (.inl p1), some (.inl p2)]) (S' := []) (M' := M) rfl rfl rfl rfl ?_
    refine zg_aload_n (x := 0) dX4_nodePlace_17 rfl ?_
    refine zg_getf (v := .inr 2) dX4_nodePlace_18 zf_X4_19 rfl rfl rfl ?_
    refine zg_iload_n (x := p1) dX4_nodePlace_21 rfl ?_
    refine zg_cS1 (As := [.inl p1]) (S := [.inr 2]) (v := (f_X4_filePointer p1)) dX4_nodePlace_22 zk_X4_93 (k_X4_filePointer q p1 M) rfl ⟨by decide, by decide⟩ ⟨by decide, by decide⟩ rfl (Nat.le_of_ble_eq_true rfl) ?_
    refine zg_st (pc' := 25) (L' := [some (.inr 0), some (.inl p1), some (.inl p2)]) (S' := [.inl (f_X4_filePointer p1), .inr 2]) (M' := M) rfl rfl rfl rfl ?_
    refine zg_iload_n (x := p2) dX4_nodePlace_25 rfl ?_
    refine zg_cV1 (As := [.inl (f_X4_filePointer p1), .inl p2]) (S := []) (v := (f_X3_placeOf (f_X4_filePointer p1) p2 M)) dX4_nodePlace_26 zk_X4_209 (k_X3_placeOf q (f_X4_filePointer p1) p2 M) rfl rfl ⟨by decide, by decide⟩ ⟨by decide, by decide⟩ rfl (Nat.le_of_ble_eq_true rfl) ?_
    refine zg_st (pc' := 29) (L' := [some (.inr 0), some (.inl p1), some (.inl p2)]) (S' := [.inl (f_X3_placeOf (f_X4_filePointer p1) p2 M)]) (M' := M) rfl rfl rfl rfl ?_
    exact zg_cSX (As := [.inl (f_X3_placeOf (f_X4_filePointer p1) p2 M)]) dX4_nodePlace_29 dX4_nodePlace_32 rfl zk_X4_212 (k_X4_told q hq (f_X3_placeOf (f_X4_filePointer p1) p2 M) M) rfl ⟨by decide, by decide⟩ rfl
  · refine zg_st (pc' := 7) (L' := [some (.inr 0), some (.inl p1), some (.inl p2)]) (S' := []) (M' := M) rfl rfl rfl rfl ?_
    exact zg_throw (text := "file is out of range") hq zt_55 rfl (by decide) dX4_nodePlace_7 dX4_nodePlace_10 dX4_nodePlace_11 dX4_nodePlace_13 dX4_nodePlace_16 (by decide) (Nat.le_of_ble_eq_true rfl) (by decide) (by decide) rfl
theorem dX4_rootPlace_0 : decode cX4_rootPlace 0 = .ok (.aload_n 0, 1) := by decide +kernel
theorem dX4_rootPlace_1 : decode cX4_rootPlace 1 = .ok (.getfield 19, 3) := by decide +kernel
theorem dX4_rootPlace_4 : decode cX4_rootPlace 4 = .ok (.bipush 52, 2) := by decide +kernel
theorem dX4_rootPlace_6 : decode cX4_rootPlace 6 = .ok (.iload_n 1, 1) := by decide +kernel
theorem dX4_rootPlace_7 : decode cX4_rootPlace 7 = .ok (.invokevirtual 209, 3) := by decide +kernel
theorem dX4_rootPlace_10 : decode cX4_rootPlace 10 = .ok (.invokestatic 212, 3) := by decide +kernel
theorem dX4_rootPlace_13 : decode cX4_rootPlace 13 = .ok (.ireturn, 1) := by decide +kernel
def f_X4_rootPlace (p1 : Int32) (M : Mem) : (Int32 ⊕ String) :=
  f_X4_told (f_X3_placeOf 52 p1 M)
set_option maxRecDepth 100000 in
set_option maxHeartbeats 4000000 in
theorem k_X4_rootPlace (q : ZQ) (hq : q.1.stackTraces = false) (p1 : Int32) (M : Mem) : Zc (zgX q) mX4_rootPlace 1 6 [.inr 0, .inl p1] M (xI M (f_X4_rootPlace p1 M)) := by
  refine Zc.of (by decide) zi_X4_rootPlace.1 (Nat.le_of_ble_eq_true rfl) rfl ?_
  show Zg _ _ _ _ _ _ (zlet (f_X4_rootPlace p1 M) (xI M)) _ _ _ _
  unfold f_X4_rootPlace
  refine zg_aload_n (x := 0) dX4_rootPlace_0 rfl ?_
  refine zg_getf (v := .inr 2) dX4_rootPlace_1 zf_X4_19 rfl rfl rfl ?_
  refine zg_bipush (v := 52) dX4_rootPlace_4 rfl ?_
  refine zg_iload_n (x := p1) dX4_rootPlace_6 rfl ?_
  refine zg_cV1 (As := [.inl 52, .inl p1]) (S := []) (v := (f_X3_placeOf 52 p1 M)) dX4_rootPlace_7 zk_X4_209 (k_X3_placeOf q 52 p1 M) rfl rfl ⟨by decide, by decide⟩ ⟨by decide, by decide⟩ rfl (Nat.le_of_ble_eq_true rfl) ?_
  refine zg_st (pc' := 10) (L' := [some (.inr 0), some (.inl p1)]) (S' := [.inl (f_X3_placeOf 52 p1 M)]) (M' := M) rfl rfl rfl rfl ?_
  exact zg_cSX (As := [.inl (f_X3_placeOf 52 p1 M)]) dX4_rootPlace_10 dX4_rootPlace_13 rfl zk_X4_212 (k_X4_told q hq (f_X3_placeOf 52 p1 M) M) rfl ⟨by decide, by decide⟩ rfl
theorem dX4_birth_0 : decode cX4_birth 0 = .ok (.iload_n 1, 1) := by decide +kernel
theorem dX4_birth_1 : decode cX4_birth 1 = .ok (.iload_n 2, 1) := by decide +kernel
theorem dX4_birth_2 : decode cX4_birth 2 = .ok (.invokestatic 51, 3) := by decide +kernel
theorem dX4_birth_5 : decode cX4_birth 5 = .ok (.ifCond .ne 13, 3) := by decide +kernel
theorem dX4_birth_8 : decode cX4_birth 8 = .ok (.new 55, 3) := by decide +kernel
theorem dX4_birth_11 : decode cX4_birth 11 = .ok (.dup, 1) := by decide +kernel
theorem dX4_birth_12 : decode cX4_birth 12 = .ok (.ldc 84, 2) := by decide +kernel
theorem dX4_birth_14 : decode cX4_birth 14 = .ok (.invokespecial 59, 3) := by decide +kernel
theorem dX4_birth_17 : decode cX4_birth 17 = .ok (.athrow, 1) := by decide +kernel
theorem dX4_birth_18 : decode cX4_birth 18 = .ok (.aload_n 0, 1) := by decide +kernel
theorem dX4_birth_19 : decode cX4_birth 19 = .ok (.getfield 19, 3) := by decide +kernel
theorem dX4_birth_22 : decode cX4_birth 22 = .ok (.iload_n 1, 1) := by decide +kernel
theorem dX4_birth_23 : decode cX4_birth 23 = .ok (.iload_n 2, 1) := by decide +kernel
theorem dX4_birth_24 : decode cX4_birth 24 = .ok (.invokestatic 66, 3) := by decide +kernel
theorem dX4_birth_27 : decode cX4_birth 27 = .ok (.invokevirtual 217, 3) := by decide +kernel
theorem dX4_birth_30 : decode cX4_birth 30 = .ok (.ireturn, 1) := by decide +kernel
def f_X4_birth (p1 : Int32) (p2 : Int32) (M : Mem) : (Int32 ⊕ String) :=
  if (f_X4_isBlockOfFile p1 p2) then .inl (f_X3_birthOf (f_X4_blockPointer p1 p2) M)
  else .inr "java/lang/IllegalArgumentException"
set_option maxRecDepth 100000 in
set_option maxHeartbeats 4000000 in
theorem k_X4_birth (q : ZQ) (hq : q.1.stackTraces = false) (p1 : Int32) (p2 : Int32) (M : Mem) : Zc (zgX q) mX4_birth 1 6 [.inr 0, .inl p1, .inl p2] M (xI M (f_X4_birth p1 p2 M)) := by
  refine Zc.of (by decide) zi_X4_birth.1 (Nat.le_of_ble_eq_true rfl) rfl ?_
  show Zg _ _ _ _ _ _ (zlet (f_X4_birth p1 p2 M) (xI M)) _ _ _ _
  unfold f_X4_birth
  refine zg_iload_n (x := p1) dX4_birth_0 rfl ?_
  refine zg_iload_n (x := p2) dX4_birth_1 rfl ?_
  refine zg_cS1 (As := [.inl p1, .inl p2]) (S := []) (v := bI ((f_X4_isBlockOfFile p1 p2))) dX4_birth_2 zk_X4_51 (k_X4_isBlockOfFile q p1 p2 M) rfl ⟨by decide, by decide⟩ ⟨by decide, by decide⟩ rfl (Nat.le_of_ble_eq_true rfl) ?_
  refine zg_st (pc' := 5) (L' := [some (.inr 0), some (.inl p1), some (.inl p2)]) (S' := [.inl (bI ((f_X4_isBlockOfFile p1 p2)))]) (M' := M) rfl rfl rfl rfl ?_
  refine zg_ifbn (tgt := 18) dX4_birth_5 rfl (fun c5 => ?_) (fun c5 => ?_)
  · refine zg_st (pc' := 18) (L' := [some (.inr 0), some (.inl p1), some (.inl p2)]) (S' := []) (M' := M) rfl rfl rfl rfl ?_
    refine zg_aload_n (x := 0) dX4_birth_18 rfl ?_
    refine zg_getf (v := .inr 2) dX4_birth_19 zf_X4_19 rfl rfl rfl ?_
    refine zg_iload_n (x := p1) dX4_birth_22 rfl ?_
    refine zg_iload_n (x := p2) dX4_birth_23 rfl ?_
    refine zg_cS1 (As := [.inl p1, .inl p2]) (S := [.inr 2]) (v := (f_X4_blockPointer p1 p2)) dX4_birth_24 zk_X4_66 (k_X4_blockPointer q p1 p2 M) rfl ⟨by decide, by decide⟩ ⟨by decide, by decide⟩ rfl (Nat.le_of_ble_eq_true rfl) ?_
    refine zg_st (pc' := 27) (L' := [some (.inr 0), some (.inl p1), some (.inl p2)]) (S' := [.inl (f_X4_blockPointer p1 p2), .inr 2]) (M' := M) rfl rfl rfl rfl ?_
    refine zg_cV1 (As := [.inl (f_X4_blockPointer p1 p2)]) (S := []) (v := (f_X3_birthOf (f_X4_blockPointer p1 p2) M)) dX4_birth_27 zk_X4_217 (k_X3_birthOf q (f_X4_blockPointer p1 p2) M) rfl rfl ⟨by decide, by decide⟩ ⟨by decide, by decide⟩ rfl (Nat.le_of_ble_eq_true rfl) ?_
    refine zg_st (pc' := 30) (L' := [some (.inr 0), some (.inl p1), some (.inl p2)]) (S' := [.inl (f_X3_birthOf (f_X4_blockPointer p1 p2) M)]) (M' := M) rfl rfl rfl rfl ?_
    exact zg_iret dX4_birth_30 rfl rfl ⟨by decide, by decide⟩ rfl
  · refine zg_st (pc' := 8) (L' := [some (.inr 0), some (.inl p1), some (.inl p2)]) (S' := []) (M' := M) rfl rfl rfl rfl ?_
    exact zg_throw (text := "file or block is out of range") hq zt_55 rfl (by decide) dX4_birth_8 dX4_birth_11 dX4_birth_12 dX4_birth_14 dX4_birth_17 (by decide) (Nat.le_of_ble_eq_true rfl) (by decide) (by decide) rfl
theorem dX4_checksum_0 : decode cX4_checksum 0 = .ok (.iload_n 1, 1) := by decide +kernel
theorem dX4_checksum_1 : decode cX4_checksum 1 = .ok (.invokestatic 79, 3) := by decide +kernel
theorem dX4_checksum_4 : decode cX4_checksum 4 = .ok (.ifCond .ne 13, 3) := by decide +kernel
theorem dX4_checksum_7 : decode cX4_checksum 7 = .ok (.new 55, 3) := by decide +kernel
theorem dX4_checksum_10 : decode cX4_checksum 10 = .ok (.dup, 1) := by decide +kernel
theorem dX4_checksum_11 : decode cX4_checksum 11 = .ok (.ldc 215, 2) := by decide +kernel
theorem dX4_checksum_13 : decode cX4_checksum 13 = .ok (.invokespecial 59, 3) := by decide +kernel
theorem dX4_checksum_16 : decode cX4_checksum 16 = .ok (.athrow, 1) := by decide +kernel
theorem dX4_checksum_17 : decode cX4_checksum 17 = .ok (.aload_n 0, 1) := by decide +kernel
theorem dX4_checksum_18 : decode cX4_checksum 18 = .ok (.getfield 19, 3) := by decide +kernel
theorem dX4_checksum_21 : decode cX4_checksum 21 = .ok (.iload_n 1, 1) := by decide +kernel
theorem dX4_checksum_22 : decode cX4_checksum 22 = .ok (.invokestatic 93, 3) := by decide +kernel
theorem dX4_checksum_25 : decode cX4_checksum 25 = .ok (.invokevirtual 220, 3) := by decide +kernel
theorem dX4_checksum_28 : decode cX4_checksum 28 = .ok (.ireturn, 1) := by decide +kernel
def f_X4_checksum (p1 : Int32) (M : Mem) : (Int32 ⊕ String) :=
  if (f_X4_isFile p1) then .inl (f_X3_checksumOf (f_X4_filePointer p1) M)
  else .inr "java/lang/IllegalArgumentException"
set_option maxRecDepth 100000 in
set_option maxHeartbeats 4000000 in
theorem k_X4_checksum (q : ZQ) (hq : q.1.stackTraces = false) (p1 : Int32) (M : Mem) : Zc (zgX q) mX4_checksum 1 6 [.inr 0, .inl p1] M (xI M (f_X4_checksum p1 M)) := by
  refine Zc.of (by decide) zi_X4_checksum.1 (Nat.le_of_ble_eq_true rfl) rfl ?_
  show Zg _ _ _ _ _ _ (zlet (f_X4_checksum p1 M) (xI M)) _ _ _ _
  unfold f_X4_checksum
  refine zg_iload_n (x := p1) dX4_checksum_0 rfl ?_
  refine zg_cS1 (As := [.inl p1]) (S := []) (v := bI ((f_X4_isFile p1))) dX4_checksum_1 zk_X4_79 (k_X4_isFile q p1 M) rfl ⟨by decide, by decide⟩ ⟨by decide, by decide⟩ rfl (Nat.le_of_ble_eq_true rfl) ?_
  refine zg_st (pc' := 4) (L' := [some (.inr 0), some (.inl p1)]) (S' := [.inl (bI ((f_X4_isFile p1)))]) (M' := M) rfl rfl rfl rfl ?_
  refine zg_ifbn (tgt := 17) dX4_checksum_4 rfl (fun c4 => ?_) (fun c4 => ?_)
  · refine zg_st (pc' := 17) (L' := [some (.inr 0), some (.inl p1)]) (S' := []) (M' := M) rfl rfl rfl rfl ?_
    refine zg_aload_n (x := 0) dX4_checksum_17 rfl ?_
    refine zg_getf (v := .inr 2) dX4_checksum_18 zf_X4_19 rfl rfl rfl ?_
    refine zg_iload_n (x := p1) dX4_checksum_21 rfl ?_
    refine zg_cS1 (As := [.inl p1]) (S := [.inr 2]) (v := (f_X4_filePointer p1)) dX4_checksum_22 zk_X4_93 (k_X4_filePointer q p1 M) rfl ⟨by decide, by decide⟩ ⟨by decide, by decide⟩ rfl (Nat.le_of_ble_eq_true rfl) ?_
    refine zg_st (pc' := 25) (L' := [some (.inr 0), some (.inl p1)]) (S' := [.inl (f_X4_filePointer p1), .inr 2]) (M' := M) rfl rfl rfl rfl ?_
    refine zg_cV1 (As := [.inl (f_X4_filePointer p1)]) (S := []) (v := (f_X3_checksumOf (f_X4_filePointer p1) M)) dX4_checksum_25 zk_X4_220 (k_X3_checksumOf q (f_X4_filePointer p1) M) rfl rfl ⟨by decide, by decide⟩ ⟨by decide, by decide⟩ rfl (Nat.le_of_ble_eq_true rfl) ?_
    refine zg_st (pc' := 28) (L' := [some (.inr 0), some (.inl p1)]) (S' := [.inl (f_X3_checksumOf (f_X4_filePointer p1) M)]) (M' := M) rfl rfl rfl rfl ?_
    exact zg_iret dX4_checksum_28 rfl rfl ⟨by decide, by decide⟩ rfl
  · refine zg_st (pc' := 7) (L' := [some (.inr 0), some (.inl p1)]) (S' := []) (M' := M) rfl rfl rfl rfl ?_
    exact zg_throw (text := "file is out of range") hq zt_55 rfl (by decide) dX4_checksum_7 dX4_checksum_10 dX4_checksum_11 dX4_checksum_13 dX4_checksum_16 (by decide) (Nat.le_of_ble_eq_true rfl) (by decide) (by decide) rfl
theorem dX4_rootChecksum_0 : decode cX4_rootChecksum 0 = .ok (.aload_n 0, 1) := by decide +kernel
theorem dX4_rootChecksum_1 : decode cX4_rootChecksum 1 = .ok (.getfield 19, 3) := by decide +kernel
theorem dX4_rootChecksum_4 : decode cX4_rootChecksum 4 = .ok (.bipush 52, 2) := by decide +kernel
theorem dX4_rootChecksum_6 : decode cX4_rootChecksum 6 = .ok (.invokevirtual 220, 3) := by decide +kernel
theorem dX4_rootChecksum_9 : decode cX4_rootChecksum 9 = .ok (.ireturn, 1) := by decide +kernel
def f_X4_rootChecksum (M : Mem) : Int32 :=
  (f_X3_checksumOf 52 M)
set_option maxRecDepth 100000 in
set_option maxHeartbeats 4000000 in
theorem k_X4_rootChecksum (q : ZQ) (M : Mem) : Zc (zgX q) mX4_rootChecksum 0 0 [.inr 0] M (wI M (f_X4_rootChecksum M)) := by
  refine Zc.of (by decide) zi_X4_rootChecksum.1 (Nat.le_of_ble_eq_true rfl) rfl ?_
  show Zg _ _ _ _ _ _ (zlet (f_X4_rootChecksum M) (wI M)) _ _ _ _
  unfold f_X4_rootChecksum
  refine zg_aload_n (x := 0) dX4_rootChecksum_0 rfl ?_
  refine zg_getf (v := .inr 2) dX4_rootChecksum_1 zf_X4_19 rfl rfl rfl ?_
  refine zg_bipush (v := 52) dX4_rootChecksum_4 rfl ?_
  refine zg_cV1 (As := [.inl 52]) (S := []) (v := (f_X3_checksumOf 52 M)) dX4_rootChecksum_6 zk_X4_220 (k_X3_checksumOf q 52 M) rfl rfl ⟨by decide, by decide⟩ ⟨by decide, by decide⟩ rfl (Nat.le_of_ble_eq_true rfl) ?_
  refine zg_st (pc' := 9) (L' := [some (.inr 0)]) (S' := [.inl (f_X3_checksumOf 52 M)]) (M' := M) rfl rfl rfl rfl ?_
  exact zg_iret dX4_rootChecksum_9 rfl rfl ⟨by decide, by decide⟩ rfl
end
