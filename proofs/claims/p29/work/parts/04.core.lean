/-! ===== CORE: a world of a fixed shape; its memory is a function of a cell's number and a place ===== -/
abbrev Mem : Type := Nat → Nat → Int32
abbrev SV : Type := Int32 ⊕ Nat
/-- a cell's shape: an object of a class with its fields (some k: the cell k, none: an int), or an array (false: int, true: boolean, none: long, 64 places of the memory for each of its own, a bit each) -/
abbrev ShE : Type := (Nat × List (Option Nat)) ⊕ (Option Bool × Nat)
/-- launch, the classes' numbers, int[], boolean[] and long[], addresses, shape -/
abbrev ZG : Type := Launch × va_G × (ClassId × ClassId × ClassId) × (Nat → Nat) × List ShE
/-- a long out of its bits -/
def zbn (f : Nat → Int32) (i : Nat) : Nat → Nat
  | 0 => 0
  | n + 1 => zbn f i n + (if f (64 * i + n) = 0 then 0 else 2 ^ n)
def zbl (f : Nat → Int32) (i : Nat) : Int64 := Int64.ofBitVec (BitVec.ofNat 64 (zbn f i 64))
def zv (g : ZG) : SV → Value
  | .inl x => .int x
  | .inr k => .ref (g.2.2.2.1 k)
def zfv (g : ZG) (f : Nat → Int32) (j : Nat) : Option Nat → Value
  | some k => .ref (g.2.2.2.1 k)
  | none => .int (f j)
def zfl (g : ZG) (f : Nat → Int32) : Nat → List (Option Nat) → List Value
  | _, [] => []
  | j, o :: r => zfv g f j o :: zfl g f (j + 1) r
def zcl (g : ZG) (f : Nat → Int32) : ShE → va_E
  | .inl o => .inr (o.1, zfl g f 0 o.2)
  | .inr (some false, n) => .inl (g.2.2.1.1, n, .inl f)
  | .inr (some true, n) => .inl (g.2.2.1.2.1, n, .inl f)
  | .inr (none, n) => .inl (g.2.2.1.2.2, n, .inr (.inl (zbl f)))
def zwr (g : ZG) (M : Mem) : Nat → List ShE → va_W
  | _, [] => []
  | k, x :: r => (g.2.2.2.1 k, zcl g (M k) x) :: zwr g M (k + 1) r
def zws (g : ZG) (M : Mem) : va_W := zwr g M 0 g.2.2.2.2
def mset (M : Mem) (k : Nat) (f : Nat → Int32) : Mem := fun a => if a = k then f else M a
def mup (M : Mem) (k i : Nat) (v : Int32) : Mem := mset M k (upd (M k) i v)
theorem mset_eq (M : Mem) (k : Nat) (f : Nat → Int32) : mset M k f k = f := by simp [mset]
theorem mset_ne {M : Mem} {k a : Nat} {f : Nat → Int32} (h : a ≠ k) : mset M k f a = M a := by simp [mset, h]
theorem zwr_get (g : ZG) (M : Mem) (sh : List ShE) : ∀ (k i : Nat), (zwr g M k sh)[i]? = (sh[i]?).map (fun x => (g.2.2.2.1 (k + i), zcl g (M (k + i)) x)) := by
  induction sh with
  | nil => intro k i; simp [zwr]
  | cons x r ih =>
    intro k i
    cases i with
    | zero => simp [zwr]
    | succ i =>
      have e : k + 1 + i = k + (i + 1) := by omega
      simp [zwr, ih, e]
theorem zws_get (g : ZG) (M : Mem) (i : Nat) : (zws g M)[i]? = (g.2.2.2.2[i]?).map (fun x => (g.2.2.2.1 i, zcl g (M i) x)) := by
  unfold zws
  rw [zwr_get]
  simp only [Nat.zero_add]
theorem zws_at {g : ZG} {M : Mem} {k : Nat} {x : ShE} (h : g.2.2.2.2[k]? = some x) : (zws g M)[k]? = some (g.2.2.2.1 k, zcl g (M k) x) := by
  rw [zws_get, h]
  rfl
theorem zws_inv {g : ZG} {M : Mem} {k : Nat} {q : Nat × va_E} (h : (zws g M)[k]? = some q) : ∃ x, g.2.2.2.2[k]? = some x ∧ q = (g.2.2.2.1 k, zcl g (M k) x) := by
  rw [zws_get] at h
  cases hx : g.2.2.2.2[k]? with
  | none => rw [hx] at h; cases h
  | some x => rw [hx] at h; exact ⟨x, rfl, (Option.some.inj h).symm⟩
theorem zws_set {g : ZG} {M : Mem} {k : Nat} {x : ShE} {f : Nat → Int32} {e : va_E} (h : g.2.2.2.2[k]? = some x) (he : zcl g f x = e) : (zws g M).set k (g.2.2.2.1 k, e) = zws g (mset M k f) := by
  apply List.ext_getElem?
  intro i
  rw [List.getElem?_set, zws_get, zws_get]
  by_cases hi : k = i
  · subst hi
    have hl : k < (zws g M).length := (List.getElem?_eq_some_iff.mp (zws_at (M := M) h)).1
    rw [if_pos rfl, if_pos hl, h, mset_eq, ← he]
    rfl
  · rw [if_neg hi, mset_ne (fun q => hi q.symm)]
theorem zfl_get (g : ZG) (f : Nat → Int32) (fs : List (Option Nat)) : ∀ (j i : Nat), (zfl g f j fs)[i]? = (fs[i]?).map (zfv g f (j + i)) := by
  induction fs with
  | nil => intro j i; simp [zfl]
  | cons x r ih =>
    intro j i
    cases i with
    | zero => simp [zfl]
    | succ i =>
      have e : j + 1 + i = j + (i + 1) := by omega
      simp [zfl, ih, e]
theorem zfl_set {g : ZG} {f : Nat → Int32} {fs : List (Option Nat)} {k : Nat} (h : fs[k]? = some none) (v : Int32) : (zfl g f 0 fs).set k (.int v) = zfl g (upd f k v) 0 fs := by
  apply List.ext_getElem?
  intro i
  rw [List.getElem?_set, zfl_get, zfl_get]
  by_cases hi : k = i
  · subst hi
    have hl : k < (zfl g f 0 fs).length := by
      have h1 : (zfl g f 0 fs)[k]? = some (.int (f (0 + k))) := by rw [zfl_get, h]; rfl
      exact (List.getElem?_eq_some_iff.mp h1).1
    rw [if_pos rfl, if_pos hl, h]
    simp [zfv, upd]
  · rw [if_neg hi]
    cases hx : fs[i]? with
    | none => rfl
    | some o =>
      cases o with
      | some q => rfl
      | none =>
        have : ¬ i = k := fun q => hi q.symm
        simp [zfv, upd, this]
/-- the addresses that a method over this world may write -/
def zA (g : ZG) (sz : Nat) : Nat → Prop := fun q => (∃ (k : Nat) (x : ShE), g.2.2.2.2[k]? = some x ∧ q = g.2.2.2.1 k) ∨ sz ≤ q
theorem zD_any {g : ZG} {M N : Mem} {A : Nat → Prop} (h : va_D A (zws g M)) : va_D A (zws g N) := by
  refine ⟨fun i j p q hp hq e => ?_, fun k q hq => ?_⟩
  · obtain ⟨x, hx, rfl⟩ := zws_inv hp
    obtain ⟨y, hy, rfl⟩ := zws_inv hq
    exact h.1 i j _ _ (zws_at hx) (zws_at hy) e
  · obtain ⟨x, hx, rfl⟩ := zws_inv hq
    have h9 := h.2 k _ (zws_at (M := M) hx)
    exact h9
theorem zD_self {g : ZG} {M : Mem} {A : Nat → Prop} {sz : Nat} (h : va_D A (zws g M)) : va_D (zA g sz) (zws g M) := by
  refine ⟨h.1, fun k q hq => ?_⟩
  obtain ⟨x, hx, rfl⟩ := zws_inv hq
  exact Or.inl ⟨k, x, hx, rfl⟩
theorem zA_mono {g : ZG} {a b : Nat} (h : a ≤ b) : ∀ q, zA g b q → zA g a q := fun q hq => hq.elim Or.inl (fun h2 => Or.inr (Nat.le_trans h h2))
-- ===== what the tables say, beside the words of the list =====
def zTB : List Cond := lw_tbl.filter goodWord
theorem zTB_of {w : Cond} (h : w ∈ lw_tbl) (hg : goodWord w = true) : w ∈ zTB := List.mem_filter.mpr ⟨h, hg⟩
theorem zms {w : Cond} (i : Nat) (h : (k2_sels lw_privs)[i]? = some w) (hg : goodWord w = true) : w ∈ zTB := zTB_of (List.mem_append_left _ (List.mem_of_getElem? h)) hg
theorem zm1 {w : Cond} (i : Nat) (h : tables_1_1[i]? = some w) (hg : goodWord w = true) : w ∈ zTB := zTB_of (List.mem_append_right _ (List.mem_append_left _ (List.mem_of_getElem? h))) hg
theorem zm2 {w : Cond} (i : Nat) (h : tables_1_2[i]? = some w) (hg : goodWord w = true) : w ∈ zTB := zTB_of (List.mem_append_right _ (List.mem_append_right _ (List.mem_append_left _ (List.mem_of_getElem? h)))) hg
theorem zm3 {w : Cond} (i : Nat) (h : tables_1_3[i]? = some w) (hg : goodWord w = true) : w ∈ zTB := zTB_of (List.mem_append_right _ (List.mem_append_right _ (List.mem_append_right _ (List.mem_append_left _ (List.mem_of_getElem? h))))) hg
theorem zm4 {w : Cond} (i : Nat) (h : tables_1_4[i]? = some w) (hg : goodWord w = true) : w ∈ zTB := zTB_of (List.mem_append_right _ (List.mem_append_right _ (List.mem_append_right _ (List.mem_append_right _ (List.mem_of_getElem? h))))) hg
def zNW : List Cond := [.fieldLinkNest RX4 137 RX2 "number" "I" RX4, .methodLinkNest RX0 25 yX4_isSideOfMirror RX4, .methodLinkNest RX0 29 yX4_isPlaceNumber RX4, .methodLinkNest RX0 33 yX4_placeNumber RX4, .methodLinkNest RX0 40 yX4_isCellOnSide RX4, .methodLinkNest RX0 43 yX4_mirrorOf RX4,
  .methodLinkNest RX1 36 yX4_isPointer RX4, .methodLinkNest RX1 44 yX4_mirrorOf RX4, .methodLinkNest RX1 50 yX4_isMirror RX4, .methodLinkNest RX1 53 yX4_placeNumber RX4, .methodLinkNest RX1 60 yX4_isCell RX4, .methodLinkNest RX2 25 yX4_isBlockPointer RX4, .methodLinkNest RX2 29 yX4_blockPointer RX4, .methodLinkNest RX3 33 yX4_isBlockPointer RX4, .methodLinkNest RX3 41 yX4_isPointer RX4]
def zCW : List Cond := [.castable "java/lang/IllegalArgumentException" "java/lang/IllegalArgumentException", .castable "java/lang/IllegalStateException" "java/lang/IllegalStateException", .castable "java/util/NoSuchElementException" "java/util/NoSuchElementException",
  .declares (Bundle.initS "java/lang/RuntimeException"), .declares (Bundle.initS "java/lang/Exception"), .declares (Bundle.initS "java/lang/Throwable")]
def zST : List (Nat × String) := [(57, "file, block or value is out of range"), (77, "file, from or to is out of range"), (82, "file or copies is out of range"), (84, "file or block is out of range"), (101, "a pointer cannot be read"), (112, "all blocks from this one on are holes"), (123, "there is no free cell for some place"), (143, "mirror or side is out of range"), (148, "a side of the mirror is offline"), (154, "the side is online"), (165, "mirror, side or cell is out of range"), (173, "the side is offline, or the cell is free"), (182, "the side is offline"), (187, "mirror or cell is out of range"), (189, "mirror is out of range"), (226, "there is no such place"), (215, "file is out of range")]
theorem zTB_good : ∀ w ∈ zTB, w ∈ zTB ∧ ((w.onTables && w.keeps) = true ∨ ∃ ty, w = .arrayClass ty) := fun w hw => ⟨hw, good_of_word (List.mem_filter.mp hw).2⟩
def zNc (U : State) : Prop := va_Nc "java/lang/IllegalStateException" "java/lang/IllegalArgumentException" U ∧ va_Nc "java/util/NoSuchElementException" "java/lang/IllegalArgumentException" U
def zK (g : ZG) (U : State) : Prop := va_K g.2.1 vwCl [(g.2.2.1.1, .int), (g.2.2.1.2.1, .boolean), (g.2.2.1.2.2, .long)] U ∧ (∀ w ∈ zNW, va_Nw w U) ∧ (∀ w ∈ zCW, va_Nw w U) ∧ zNc U ∧ ∀ q ∈ zST, ∃ sa : Nat, vk_R RX4 q.1 q.2 sa U
def zE (A : Nat → Prop) (U : State) (H : Heap) : Prop := vx_Zq Bundle.tN "UNASSIGNED_STACK" Bundle.steD A U H ∧ vx_Zq Bundle.tN "SUPPRESSED_SENTINEL" Bundle.listD A U H
theorem zK.warm {g : ZG} {s U : State} (hW : s.WarmedH U.vm) (h : zK g s) : zK g U := by
  refine ⟨va_K.moved hW.alike h.1, ?_, ?_, ⟨va_Nc.moved hW.alike h.2.2.2.1.1, va_Nc.moved hW.alike h.2.2.2.1.2⟩, fun q hq => ?_⟩
  · have h2 := h.2.1
    unfold zNW at h2 ⊢
    simp only [List.forall_mem_cons, List.not_mem_nil, false_imp_iff, implies_true, and_true] at h2 ⊢
    obtain ⟨h0, h1, h2, h3, h4, h5, h6, h7, h8, h9, h10, h11, h12, h13, h14⟩ := h2
    exact ⟨h0.warmF hW, h1.warmM hW, h2.warmM hW, h3.warmM hW, h4.warmM hW, h5.warmM hW, h6.warmM hW, h7.warmM hW, h8.warmM hW, h9.warmM hW, h10.warmM hW, h11.warmM hW, h12.warmM hW, h13.warmM hW, h14.warmM hW⟩
  · have h2 := h.2.2.1
    unfold zCW at h2 ⊢
    simp only [List.forall_mem_cons, List.not_mem_nil, false_imp_iff, implies_true, and_true] at h2 ⊢
    exact ⟨h2.1.warmC hW, h2.2.1.warmC hW, h2.2.2.1.warmC hW, h2.2.2.2.1.warmD hW, h2.2.2.2.2.1.warmD hW, h2.2.2.2.2.2.warmD hW⟩
  · obtain ⟨sa, hs⟩ := h.2.2.2.2 q hq
    exact ⟨sa, vk_R.warm hW hs⟩
theorem zK.same {g : ZG} {s U : State} (hv : s.vm = U.vm) (h : zK g s) : zK g U := h.warm (by rw [← hv]; exact State.WarmedH.refl s)
theorem zE.warm {A : Nat → Prop} {s U : State} {H : Heap} (hW : s.WarmedH U.vm) (h : zE A s H) : zE A U H := ⟨vx_Zq.moved hW.alike h.1, vx_Zq.moved hW.alike h.2⟩
theorem zE.kept {A : Nat → Prop} {U : State} {H H1 : Heap} (h : zE A U H) (hq : ∀ a : Nat, a < H.size → ¬ A a → H1[a]? = H[a]?) : zE A U H1 := ⟨vx_Zq.kept h.1 hq, vx_Zq.kept h.2 hq⟩
theorem zE.narrow {A B : Nat → Prop} {U : State} {H : Heap} (h : zE A U H) (hAB : ∀ q, B q → A q) : zE B U H := ⟨vx_Zq.narrow h.1 hAB, vx_Zq.narrow h.2 hAB⟩
-- ===== contracts =====
/-- name, code, number of locals, type of the answer, frames, words of locals -/
abbrev MI : Type := MethodName × ByteArray × Nat × Option FieldType × Nat × Nat
def zwm (μ : MI) : List Cond := Cond.code μ.1 μ.2.1 μ.2.2.1 μ.2.2.2.1 :: zTB
abbrev ZR : Type := (Option Int32 ⊕ String) × Mem
def zPre (g : ZG) (M : Mem) (sz : Nat) (U : State) : Prop := U.heap.size = sz ∧ va_P g.2.1 vwCl (zws g M) U.heap ∧ va_D (fun _ => True) (zws g M) ∧ zK g U ∧ zE (zA g sz) U U.heap
def zQ (g : ZG) (A : Nat → Prop) (B : ZR) : Array Value → State → Outcome → State → Prop := fun _ st oc t => (∃ (r : Option Int32) (N : Mem), B = (.inl r, N) ∧ oc = .returned (r.map Value.int) ∧ va_P g.2.1 vwCl (zws g N) t.heap) ∧ va_F A st t
def zX (g : ZG) (A : Nat → Prop) (B : ZR) : String → State → State → Prop := fun E st t => (∃ N : Mem, B = (.inr E, N) ∧ va_P g.2.1 vwCl (zws g N) t.heap) ∧ va_F A st t
def zRm (μ : MI) (mc ms : Nat) : Room := { frames := μ.2.2.2.2.1, cells := mc, slots := ms, locals := μ.2.2.2.2.2 }
def Zc (g : ZG) (μ : MI) (mc ms : Nat) (args : List SV) (M : Mem) (B : ZR) : Prop :=
  ∀ sz : Nat, vx_Met g.1 μ.1 (zwm μ) (zRm μ mc ms) (va_Pc (args.map (zv g)) (zPre g M sz)) (zQ g (zA g sz) B) (zX g (zA g sz) B) mc ms (zA g sz)
def zL (g : ZG) (ls : Array Slot) (n : Nat) (L : List (Option SV)) : Prop := ls.size = n ∧ lv_wf ls ∧ L.length ≤ n ∧ ∀ (i : Nat) (v : SV), L[i]? = some (some v) → ls[i]? = some (.val (zv g v))
def zCx (g : ZG) (μ : MI) (p : Program) (s : State) (m : MethodId) (args : Array Value) (meth : Method) (c : Code) (sz : Nat) : Prop :=
  p.tables.exec = Jvm.exec ∧ c.code = μ.2.1 ∧ meth.sig.returnType = μ.2.2.2.1 ∧ c.maxLocals = μ.2.2.1 ∧ s.vm.findClass μ.1.cls = some m.cls ∧ (∀ w ∈ zTB, w.before args s = true) ∧ meth.locks = false ∧ (∀ x ∈ c.exceptionTable.toList, False) ∧ zK g s ∧ s.heap.size = sz ∧ zE (zA g sz) s s.heap ∧ Cond.code μ.1 μ.2.1 μ.2.2.1 μ.2.2.2.1 ∈ zTB
def Zg (g : ZG) (μ : MI) (mc ms ce sl : Nat) (B : ZR) (pc : Nat) (L : List (Option SV)) (S : List SV) (M : Mem) : Prop :=
  ∀ (p : Program) (e : Env) (s : State) (m : MethodId) (args : Array Value) (below : List Frame) (meth : Method) (c : Code) (H : Heap) (locs : List Loc) (ls : Array Slot) (sz : Nat),
    zCx g μ p s m args meth c sz → va_P g.2.1 vwCl (zws g M) H → va_D (zA g sz) (zws g M) → va_S (zA g sz) s.heap H locs → zL g ls μ.2.2.1 L →
    W p g.1 e (zRm μ mc ms) s m args below meth c H locs ce sl (vx_MQ below (zQ g (zA g sz) B) (zX g (zA g sz) B) args s mc ms (zA g sz)) (F0 m pc ls (S.map (zv g)))
theorem zcat (g : ZG) (v : SV) : (zv g v).category = 1 := by cases v <;> rfl
theorem zlg (g : ZG) (args : List SV) : lg_sl (args.map (zv g)) = args.map (fun v => Slot.val (zv g v)) := by
  induction args with
  | nil => rfl
  | cons v r ih =>
    have h : ¬ (zv g v).category = 2 := by rw [zcat]; decide
    have e : lg_sl ((v :: r).map (zv g)) = (if (zv g v).category = 2 then [Slot.val (zv g v), .second] else [.val (zv g v)]) ++ lg_sl (r.map (zv g)) := by simp [lg_sl]
    rw [e, if_neg h, ih]
    rfl
theorem zL_entry (g : ZG) (args : List SV) {n : Nat} (h : args.length ≤ n) : zL g ((lg_sl (args.map (zv g)) ++ List.replicate (n - (lg_sl (args.map (zv g))).length) Slot.unset).toArray) n (args.map some ++ List.replicate (n - args.length) none) := by
  have hlen : (lg_sl (args.map (zv g))).length = args.length := by rw [zlg]; simp
  have hl := lv_entry (args.map (zv g)) (n := n) (by rw [hlen]; exact h)
  refine ⟨hl.1, hl.2.1, by simp; omega, fun i v hv => ?_⟩
  by_cases hi : i < args.length
  · rw [List.getElem?_append_left (by simpa using hi), List.getElem?_map] at hv
    rw [zlg]
    simp only [List.getElem?_toArray]
    rw [List.getElem?_append_left (by simpa using hi), List.getElem?_map]
    cases hx : args[i]? with
    | none => rw [hx] at hv; cases hv
    | some w =>
      rw [hx] at hv
      have : w = v := Option.some.inj (Option.some.inj hv)
      rw [this]
      rfl
  · rw [List.getElem?_append_right (by simpa using hi)] at hv
    rw [List.getElem?_replicate] at hv
    split at hv
    · cases hv
    · cases hv
def zas (g : ZG) : Nat → List (Option SV) → List (Nat × Value)
  | _, [] => []
  | i, some v :: r => (i, zv g v) :: zas g (i + 1) r
  | i, none :: r => zas g (i + 1) r
theorem zas_mem (g : ZG) (L : List (Option SV)) : ∀ (k : Nat) (q : Nat × Value), q ∈ zas g k L ↔ ∃ (i : Nat) (v : SV), L[i]? = some (some v) ∧ q = (k + i, zv g v) := by
  induction L with
  | nil => intro k q; simp [zas]
  | cons o r ih =>
    intro k q
    cases o with
    | none =>
      rw [show zas g k (none :: r) = zas g (k + 1) r from rfl, ih]
      constructor
      · rintro ⟨i, v, h1, h2⟩
        exact ⟨i + 1, v, by simpa using h1, by rw [h2]; congr 1; omega⟩
      · rintro ⟨i, v, h1, h2⟩
        cases i with
        | zero => simp at h1
        | succ i => exact ⟨i, v, by simpa using h1, by rw [h2]; congr 1; omega⟩
    | some w =>
      rw [show zas g k (some w :: r) = (k, zv g w) :: zas g (k + 1) r from rfl, List.mem_cons, ih]
      constructor
      · rintro (h | ⟨i, v, h1, h2⟩)
        · exact ⟨0, w, by simp, by rw [h]; rfl⟩
        · exact ⟨i + 1, v, by simpa using h1, by rw [h2]; congr 1; omega⟩
      · rintro ⟨i, v, h1, h2⟩
        cases i with
        | zero =>
          left
          have : w = v := by simpa using h1
          rw [h2, this]; rfl
        | succ i => exact Or.inr ⟨i, v, by simpa using h1, by rw [h2]; congr 1; omega⟩
theorem zL_has {g : ZG} {ls : Array Slot} {n : Nat} {L : List (Option SV)} (h : zL g ls n L) : lv_has ls n (zas g 0 L) := by
  refine ⟨h.1, h.2.1, fun q hq => ?_⟩
  obtain ⟨i, v, h1, h2⟩ := (zas_mem g L 0 q).mp hq
  rw [h2]
  have := h.2.2.2 i v h1
  simpa using this
theorem zL_put {g : ZG} {ls : Array Slot} {n i : Nat} {L : List (Option SV)} {v : SV} (hn : L.length ≤ n) (h : lv_has ls n ((i, zv g v) :: (zas g 0 L).filter (fun q => !(q.1 == i) && !(q.1 + 1 == i && q.2.category == 2)))) : zL g ls n (L.set i (some v)) := by
  refine ⟨h.1, h.2.1, by simpa using hn, fun j w hj => ?_⟩
  rw [List.getElem?_set] at hj
  by_cases e : i = j
  · subst e
    rw [if_pos rfl] at hj
    split at hj
    · have : v = w := Option.some.inj (Option.some.inj hj)
      rw [← this]
      exact h.2.2 (i, zv g v) List.mem_cons_self
    · cases hj
  · rw [if_neg e] at hj
    refine h.2.2 (j, zv g w) (List.mem_cons_of_mem _ (List.mem_filter.mpr ⟨(zas_mem g L 0 _).mpr ⟨j, w, hj, by simp⟩, ?_⟩))
    have e2 : ¬ j = i := fun q => e q.symm
    simp [e2, zcat]
theorem zL_mem {g : ZG} {L : List (Option SV)} {i : Nat} {v : SV} (h : L[i]? = some (some v)) : ∃ k : Nat, (zas g 0 L)[k]? = some (i, zv g v) := List.getElem?_of_mem ((zas_mem g L 0 _).mpr ⟨i, v, h, by simp⟩)
