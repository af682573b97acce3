/-! ===== RULES: an instruction, a rule ===== -/
section ZGR
variable {g : ZG} {μ : MI} {mc ms ce sl : Nat} {B : ZR} {pc : Nat} {L : List (Option SV)} {S : List SV} {M : Mem}
theorem zg_iconst {n : Int} {v : Int32} (d : decode μ.2.1 pc = .ok (.iconst n, 1)) (hv : Int32.ofInt n = v) (h : Zg g μ mc ms ce sl B (pc + 1) L (.inl v :: S) M) : Zg g μ mc ms ce sl B pc L S M :=
  fun p e s m args below meth c H locs ls sz C hP hD hS hL => lv_iconst C.1 C.2.1 d hv (h p e s m args below meth c H locs ls sz C hP hD hS hL)
theorem zg_bipush {n : Int} {v : Int32} (d : decode μ.2.1 pc = .ok (.bipush n, 2)) (hv : (Int8.ofInt n).toInt32 = v) (h : Zg g μ mc ms ce sl B (pc + 2) L (.inl v :: S) M) : Zg g μ mc ms ce sl B pc L S M :=
  fun p e s m args below meth c H locs ls sz C hP hD hS hL => lv_bipush C.1 C.2.1 d hv (h p e s m args below meth c H locs ls sz C hP hD hS hL)
theorem zg_sipush {n : Int} {v : Int32} (d : decode μ.2.1 pc = .ok (.sipush n, 3)) (hv : (Int16.ofInt n).toInt32 = v) (h : Zg g μ mc ms ce sl B (pc + 3) L (.inl v :: S) M) : Zg g μ mc ms ce sl B pc L S M :=
  fun p e s m args below meth c H locs ls sz C hP hD hS hL => lv_sipush C.1 C.2.1 d hv (h p e s m args below meth c H locs ls sz C hP hD hS hL)
theorem zg_ldc {i : Nat} {v : Int32} (d : decode μ.2.1 pc = .ok (.ldc i, 2)) (hv : Cond.constant μ.1.cls i v ∈ zTB) (h : Zg g μ mc ms ce sl B (pc + 2) L (.inl v :: S) M) : Zg g μ mc ms ce sl B pc L S M :=
  fun p e s m args below meth c H locs ls sz C hP hD hS hL => lv_ldc C.1 C.2.1 C.2.2.2.2.1 (C.2.2.2.2.2.1 _ hv) d (h p e s m args below meth c H locs ls sz C hP hD hS hL)
theorem zg_ldcw {i : Nat} {v : Int32} (d : decode μ.2.1 pc = .ok (.ldc_w i, 3)) (hv : Cond.constant μ.1.cls i v ∈ zTB) (h : Zg g μ mc ms ce sl B (pc + 3) L (.inl v :: S) M) : Zg g μ mc ms ce sl B pc L S M :=
  fun p e s m args below meth c H locs ls sz C hP hD hS hL => lv_ldcw C.1 C.2.1 C.2.2.2.2.1 (C.2.2.2.2.2.1 _ hv) d (h p e s m args below meth c H locs ls sz C hP hD hS hL)
theorem zg_iload_n {k : Fin 4} {x : Int32} (d : decode μ.2.1 pc = .ok (.iload_n k, 1)) (hl : L[(k : Nat)]? = some (some (.inl x))) (h : Zg g μ mc ms ce sl B (pc + 1) L (.inl x :: S) M) : Zg g μ mc ms ce sl B pc L S M :=
  fun p e s m args below meth c H locs ls sz C hP hD hS hL => lv_iload_n C.1 C.2.1 d rfl (hL.2.2.2 _ _ hl) (h p e s m args below meth c H locs ls sz C hP hD hS hL)
theorem zg_iload {k : Nat} {x : Int32} (d : decode μ.2.1 pc = .ok (.iload k, 2)) (hl : L[k]? = some (some (.inl x))) (h : Zg g μ mc ms ce sl B (pc + 2) L (.inl x :: S) M) : Zg g μ mc ms ce sl B pc L S M :=
  fun p e s m args below meth c H locs ls sz C hP hD hS hL => lv_iload C.1 C.2.1 d (hL.2.2.2 _ _ hl) (h p e s m args below meth c H locs ls sz C hP hD hS hL)
theorem zg_aload_n {k : Fin 4} {x : Nat} (d : decode μ.2.1 pc = .ok (.aload_n k, 1)) (hl : L[(k : Nat)]? = some (some (.inr x))) (h : Zg g μ mc ms ce sl B (pc + 1) L (.inr x :: S) M) : Zg g μ mc ms ce sl B pc L S M :=
  fun p e s m args below meth c H locs ls sz C hP hD hS hL => lv_aload_n C.1 C.2.1 d rfl (hL.2.2.2 _ _ hl) (h p e s m args below meth c H locs ls sz C hP hD hS hL)
theorem zg_aload {k : Nat} {x : Nat} (d : decode μ.2.1 pc = .ok (.aload k, 2)) (hl : L[k]? = some (some (.inr x))) (h : Zg g μ mc ms ce sl B (pc + 2) L (.inr x :: S) M) : Zg g μ mc ms ce sl B pc L S M :=
  fun p e s m args below meth c H locs ls sz C hP hD hS hL => lv_aload C.1 C.2.1 d (hL.2.2.2 _ _ hl) (h p e s m args below meth c H locs ls sz C hP hD hS hL)
theorem zg_istore_n {k : Fin 4} {x : Int32} (d : decode μ.2.1 pc = .ok (.istore_n k, 1)) (hk : (k : Nat) < μ.2.2.1) (h : Zg g μ mc ms ce sl B (pc + 1) (L.set (k : Nat) (some (.inl x))) S M) : Zg g μ mc ms ce sl B pc L (.inl x :: S) M :=
  fun p e s m args below meth c H locs ls sz C hP hD hS hL => lv_istore_n C.1 C.2.1 d rfl (zL_has hL) hk rfl (fun ls' hl' => h p e s m args below meth c H locs ls' sz C hP hD hS (zL_put (v := .inl x) hL.2.2.1 hl'))
theorem zg_istore {k : Nat} {x : Int32} (d : decode μ.2.1 pc = .ok (.istore k, 2)) (hk : k < μ.2.2.1) (h : Zg g μ mc ms ce sl B (pc + 2) (L.set k (some (.inl x))) S M) : Zg g μ mc ms ce sl B pc L (.inl x :: S) M :=
  fun p e s m args below meth c H locs ls sz C hP hD hS hL => lv_istore C.1 C.2.1 d (zL_has hL) hk rfl (fun ls' hl' => h p e s m args below meth c H locs ls' sz C hP hD hS (zL_put (v := .inl x) hL.2.2.1 hl'))
theorem zg_iinc {k : Nat} {n : Int} {x v : Int32} (d : decode μ.2.1 pc = .ok (.iinc k n, 3)) (hl : L[k]? = some (some (.inl x))) (hk : k < μ.2.2.1) (hv : x + Int32.ofInt n = v) (h : Zg g μ mc ms ce sl B (pc + 3) (L.set k (some (.inl v))) S M) : Zg g μ mc ms ce sl B pc L S M := by
  intro p e s m args below meth c H locs ls sz C hP hD hS hL
  obtain ⟨j, hj⟩ := zL_mem (g := g) hl
  exact lv_iinc C.1 C.2.1 d (zL_has hL) hj hv hk rfl (fun ls' hl' => h p e s m args below meth c H locs ls' sz C hP hD hS (zL_put (v := .inl v) hL.2.2.1 hl'))
theorem zg_iadd {x y : Int32} (d : decode μ.2.1 pc = .ok (.iadd, 1)) (h : Zg g μ mc ms ce sl B (pc + 1) L (.inl (x + y) :: S) M) : Zg g μ mc ms ce sl B pc L (.inl y :: .inl x :: S) M :=
  fun p e s m args below meth c H locs ls sz C hP hD hS hL => lv_iadd C.1 C.2.1 d (h p e s m args below meth c H locs ls sz C hP hD hS hL)
theorem zg_isub {x y : Int32} (d : decode μ.2.1 pc = .ok (.isub, 1)) (h : Zg g μ mc ms ce sl B (pc + 1) L (.inl (x - y) :: S) M) : Zg g μ mc ms ce sl B pc L (.inl y :: .inl x :: S) M :=
  fun p e s m args below meth c H locs ls sz C hP hD hS hL => lv_isub C.1 C.2.1 d (h p e s m args below meth c H locs ls sz C hP hD hS hL)
theorem zg_imul {x y : Int32} (d : decode μ.2.1 pc = .ok (.imul, 1)) (h : Zg g μ mc ms ce sl B (pc + 1) L (.inl (x * y) :: S) M) : Zg g μ mc ms ce sl B pc L (.inl y :: .inl x :: S) M :=
  fun p e s m args below meth c H locs ls sz C hP hD hS hL => lv_imul C.1 C.2.1 d (h p e s m args below meth c H locs ls sz C hP hD hS hL)
theorem zg_idiv {x y : Int32} (d : decode μ.2.1 pc = .ok (.idiv, 1)) (hy : ¬ y = 0) (h : Zg g μ mc ms ce sl B (pc + 1) L (.inl (x / y) :: S) M) : Zg g μ mc ms ce sl B pc L (.inl y :: .inl x :: S) M :=
  fun p e s m args below meth c H locs ls sz C hP hD hS hL => lv_idiv C.1 C.2.1 d hy (h p e s m args below meth c H locs ls sz C hP hD hS hL)
theorem zg_irem {x y : Int32} (d : decode μ.2.1 pc = .ok (.irem, 1)) (hy : ¬ y = 0) (h : Zg g μ mc ms ce sl B (pc + 1) L (.inl (x - x / y * y) :: S) M) : Zg g μ mc ms ce sl B pc L (.inl y :: .inl x :: S) M :=
  fun p e s m args below meth c H locs ls sz C hP hD hS hL => lv_irem C.1 C.2.1 d hy (h p e s m args below meth c H locs ls sz C hP hD hS hL)
theorem zg_dup {v : SV} (d : decode μ.2.1 pc = .ok (.dup, 1)) (h : Zg g μ mc ms ce sl B (pc + 1) L (v :: v :: S) M) : Zg g μ mc ms ce sl B pc L (v :: S) M :=
  fun p e s m args below meth c H locs ls sz C hP hD hS hL => lv_dup C.1 C.2.1 d (zcat g v) (h p e s m args below meth c H locs ls sz C hP hD hS hL)
theorem zg_dup2 {v w : SV} (d : decode μ.2.1 pc = .ok (.dup2, 1)) (h : Zg g μ mc ms ce sl B (pc + 1) L (v :: w :: v :: w :: S) M) : Zg g μ mc ms ce sl B pc L (v :: w :: S) M :=
  fun p e s m args below meth c H locs ls sz C hP hD hS hL => lv_dup2_11 C.1 C.2.1 d (zcat g v) (zcat g w) (h p e s m args below meth c H locs ls sz C hP hD hS hL)
theorem zg_goto {off : Int} {tgt : Nat} (d : decode μ.2.1 pc = .ok (.goto off, 3)) (ht : (pc : Int) + off = (tgt : Int)) (h : Zg g μ mc ms ce sl B tgt L S M) : Zg g μ mc ms ce sl B pc L S M :=
  fun p e s m args below meth c H locs ls sz C hP hD hS hL => lv_goto C.1 C.2.1 d ht (h p e s m args below meth c H locs ls sz C hP hD hS hL)
/-- what a condition says of one number (against 0), of two -/
def zc1 : Jvm.ClassFile.Cond → Int32 → Prop
  | .eq, x => x = 0
  | .ne, x => ¬ x = 0
  | .lt, x => x < 0
  | .ge, x => 0 ≤ x
  | .gt, x => 0 < x
  | .le, x => x ≤ 0
def zc2 : Jvm.ClassFile.Cond → Int32 → Int32 → Prop
  | .eq, x, y => x = y
  | .ne, x, y => ¬ x = y
  | .lt, x, y => x < y
  | .ge, x, y => y ≤ x
  | .gt, x, y => y < x
  | .le, x, y => x ≤ y
theorem zg_if {cd : Jvm.ClassFile.Cond} {off : Int} {tgt : Nat} {x : Int32} (d : decode μ.2.1 pc = .ok (.ifCond cd off, 3)) (ht : (pc : Int) + off = (tgt : Int)) (h1 : zc1 cd x → Zg g μ mc ms ce sl B tgt L S M) (h2 : ¬ zc1 cd x → Zg g μ mc ms ce sl B (pc + 3) L S M) : Zg g μ mc ms ce sl B pc L (.inl x :: S) M := by
  intro p e s m args below meth c H locs ls sz C hP hD hS hL
  have k1 := fun q => h1 q p e s m args below meth c H locs ls sz C hP hD hS hL
  have k2 := fun q => h2 q p e s m args below meth c H locs ls sz C hP hD hS hL
  cases cd
  · exact lv_if_eq C.1 C.2.1 d ht k1 k2
  · exact lv_if_ne C.1 C.2.1 d ht k1 (fun q => k2 (fun z => z q))
  · exact lv_if_lt C.1 C.2.1 d ht k1 k2
  · exact lv_if_ge C.1 C.2.1 d ht k1 k2
  · exact lv_if_gt C.1 C.2.1 d ht k1 k2
  · exact lv_if_le C.1 C.2.1 d ht k1 k2
theorem zg_icmp {cd : Jvm.ClassFile.Cond} {off : Int} {tgt : Nat} {x y : Int32} (d : decode μ.2.1 pc = .ok (.if_icmp cd off, 3)) (ht : (pc : Int) + off = (tgt : Int)) (h1 : zc2 cd x y → Zg g μ mc ms ce sl B tgt L S M) (h2 : ¬ zc2 cd x y → Zg g μ mc ms ce sl B (pc + 3) L S M) : Zg g μ mc ms ce sl B pc L (.inl y :: .inl x :: S) M := by
  intro p e s m args below meth c H locs ls sz C hP hD hS hL
  have k1 := fun q => h1 q p e s m args below meth c H locs ls sz C hP hD hS hL
  have k2 := fun q => h2 q p e s m args below meth c H locs ls sz C hP hD hS hL
  cases cd
  · exact lv_icmp_eq C.1 C.2.1 d ht k1 k2
  · exact lv_icmp_ne C.1 C.2.1 d ht k1 (fun q => k2 (fun z => z q))
  · exact lv_icmp_lt C.1 C.2.1 d ht k1 k2
  · exact lv_icmp_ge C.1 C.2.1 d ht k1 k2
  · exact lv_icmp_gt C.1 C.2.1 d ht k1 k2
  · exact lv_icmp_le C.1 C.2.1 d ht k1 k2
-- fields
def zfg (own : String) (idx ci j : Nat) : Prop := ∃ (C : String) (T : u_T) (N : Nat) (host : String), vwCl[ci]? = some (C, T, N) ∧ (∀ w ∈ u_ws C T N, w ∈ zTB) ∧ j < N ∧ (Cond.fieldLink own idx (T j).1 (T j).2.1 (T j).2.2.1 ∈ zTB ∨ Cond.fieldLinkNest own idx (T j).1 (T j).2.1 (T j).2.2.1 host ∈ zNW)
def zfp (own : String) (idx ci j : Nat) : Prop := ∃ (C : String) (T : u_T) (N : Nat) (ty : Nat → FieldType), vwCl[ci]? = some (C, T, N) ∧ (∀ w ∈ u_ws C T N, w ∈ zTB) ∧ j < N ∧ Cond.fieldLink own idx (T j).1 (T j).2.1 (T j).2.2.1 ∈ zTB ∧ (∀ k, k < N → parseFieldDescriptor (T k).2.2.1 = some (ty k)) ∧ (∀ a, a < N → ∀ b, b < N → a ≠ b → (T a).2.1 ≠ (T b).2.1) ∧ (T j).2.2.2 = false ∧ parseFieldDescriptor (T j).2.2.1 = some .int
theorem zg_getf {idx ci j k : Nat} {fs : List (Option Nat)} {o : Option Nat} (d : decode μ.2.1 pc = .ok (.getfield idx, 3)) (hf : zfg μ.1.cls idx ci j) (hk : g.2.2.2.2[k]? = some (.inl (ci, fs))) (hj : fs[j]? = some o) {v : SV} (hv : (match o with | some q => Sum.inr q | none => .inl (M k j)) = v) (h : Zg g μ mc ms ce sl B (pc + 3) L (v :: S) M) : Zg g μ mc ms ce sl B pc L (.inr k :: S) M := by
  intro p e s m args below meth c H locs ls sz C hP hD hS hL
  obtain ⟨Cn, T, N, host, h1, h2, h3, h4⟩ := hf
  have hg : (zfl g (M k) 0 fs)[j]? = some (zv g v) := by
    rw [zfl_get, hj, ← hv]
    cases o with
    | some q => rfl
    | none => simp [zfv, zv]
  have hh := h p e s m args below meth c H locs ls sz C hP hD hS hL
  rcases h4 with h4 | h4
  · exact va_get C.1 C.2.1 C.2.2.2.2.2.1 h2 C.2.2.2.2.1 C.2.2.2.2.2.2.2.2.1.1 hP k (zws_at hk) h1 j h3 (C.2.2.2.2.2.1 _ h4) (fun _ q => q) hg d hh
  · exact va_getN C.1 C.2.1 C.2.2.2.2.2.1 h2 C.2.2.2.2.1 C.2.2.2.2.2.2.2.2.1.1 hP k (zws_at hk) h1 j h3 (va_Nw.use rfl (C.2.2.2.2.2.2.2.2.1.2.1 _ h4)) (fun _ q => q) hg d hh
theorem zg_putf {idx ci j k : Nat} {fs : List (Option Nat)} {x : Int32} (d : decode μ.2.1 pc = .ok (.putfield idx, 3)) (hf : zfp μ.1.cls idx ci j) (hk : g.2.2.2.2[k]? = some (.inl (ci, fs))) (hj : fs[j]? = some none) (h : Zg g μ mc ms ce sl B (pc + 3) L S (mup M k j x)) : Zg g μ mc ms ce sl B pc L (.inl x :: .inr k :: S) M := by
  intro p e s m args below meth c H locs ls sz C hP hD hS hL
  obtain ⟨Cn, T, N, ty, h1, h2, h3, h4, h5, h6, h7, h8⟩ := hf
  have hlen : j < (zfl g (M k) 0 fs).length := by
    have q : (zfl g (M k) 0 fs)[j]? = some (.int (M k (0 + j))) := by rw [zfl_get, hj]; rfl
    exact (List.getElem?_eq_some_iff.mp q).1
  refine va_put C.1 C.2.1 C.2.2.2.2.2.1 h2 ty h5 h6 C.2.2.2.2.1 C.2.2.2.2.2.2.2.2.1.1 hP hD hS k (zws_at hk) h1 j h3 (C.2.2.2.2.2.1 _ h4) (fun _ q => q) h7 (v := .int x) h8 rfl rfl hlen d (fun H1 locs1 hP1 hD1 hS1 => ?_)
  have he : (zws g M).set k (g.2.2.2.1 k, .inr (ci, (zfl g (M k) 0 fs).set j (.int x))) = zws g (mup M k j x) := zws_set hk (by rw [zfl_set hj]; rfl)
  rw [he] at hP1 hD1
  exact h p e s m args below meth c H1 locs1 ls sz C hP1 hD1 hS1 hL
-- arrays
theorem zg_iald {k n : Nat} {i : Int32} (d : decode μ.2.1 pc = .ok (.iaload, 1)) (hk : g.2.2.2.2[k]? = some (.inr (false, n))) (hi : vp_in i n) (h : Zg g μ mc ms ce sl B (pc + 1) L (.inl (M k i.toNatClampNeg) :: S) M) : Zg g μ mc ms ce sl B pc L (.inl i :: .inr k :: S) M :=
  fun p e s m args below meth c H locs ls sz C hP hD hS hL => va_iald C.1 C.2.1 C.2.2.2.2.2.2.2.2.1.1 hP k 0 (zws_at hk) rfl hi d (h p e s m args below meth c H locs ls sz C hP hD hS hL)
theorem zg_zald {k n : Nat} {i : Int32} (d : decode μ.2.1 pc = .ok (.baload, 1)) (hk : g.2.2.2.2[k]? = some (.inr (true, n))) (hi : vp_in i n) (h : Zg g μ mc ms ce sl B (pc + 1) L (.inl (M k i.toNatClampNeg) :: S) M) : Zg g μ mc ms ce sl B pc L (.inl i :: .inr k :: S) M :=
  fun p e s m args below meth c H locs ls sz C hP hD hS hL => va_zald C.1 C.2.1 C.2.2.2.2.2.2.2.2.1.1 hP k 1 (zws_at hk) rfl hi d (h p e s m args below meth c H locs ls sz C hP hD hS hL)
theorem zg_iast {k n : Nat} {i x : Int32} (d : decode μ.2.1 pc = .ok (.iastore, 1)) (hk : g.2.2.2.2[k]? = some (.inr (false, n))) (hi : vp_in i n) (h : Zg g μ mc ms ce sl B (pc + 1) L S (mup M k i.toNatClampNeg x)) : Zg g μ mc ms ce sl B pc L (.inl x :: .inl i :: .inr k :: S) M := by
  intro p e s m args below meth c H locs ls sz C hP hD hS hL
  refine va_iast C.1 C.2.1 C.2.2.2.2.2.2.2.2.1.1 hP hD hS k 0 (zws_at hk) rfl hi d (fun H1 locs1 hP1 hD1 hS1 => ?_)
  have he : (zws g M).set k (g.2.2.2.1 k, .inl (g.2.2.1.1, n, .inl (upd (M k) i.toNatClampNeg x))) = zws g (mup M k i.toNatClampNeg x) := zws_set hk rfl
  have hP2 : va_P g.2.1 vwCl ((zws g M).set k (g.2.2.2.1 k, .inl (g.2.2.1.1, n, .inl (upd (M k) i.toNatClampNeg x)))) H1 := hP1
  have hD2 : va_D (zA g sz) ((zws g M).set k (g.2.2.2.1 k, .inl (g.2.2.1.1, n, .inl (upd (M k) i.toNatClampNeg x)))) := hD1
  rw [he] at hP2 hD2
  exact h p e s m args below meth c H1 locs1 ls sz C hP2 hD2 hS1 hL
theorem zg_zast {k n : Nat} {i x : Int32} (d : decode μ.2.1 pc = .ok (.bastore, 1)) (hk : g.2.2.2.2[k]? = some (.inr (true, n))) (hi : vp_in i n) {v : Int32} (hv : vp_nar .boolean x = v) (h : Zg g μ mc ms ce sl B (pc + 1) L S (mup M k i.toNatClampNeg v)) : Zg g μ mc ms ce sl B pc L (.inl x :: .inl i :: .inr k :: S) M := by
  subst hv
  intro p e s m args below meth c H locs ls sz C hP hD hS hL
  refine va_zast C.1 C.2.1 C.2.2.2.2.2.2.2.2.1.1 hP hD hS k 1 (zws_at hk) rfl hi d (fun H1 locs1 hP1 hD1 hS1 => ?_)
  have he : (zws g M).set k (g.2.2.2.1 k, .inl (g.2.2.1.2.1, n, .inl (upd (M k) i.toNatClampNeg (vp_nar .boolean x)))) = zws g (mup M k i.toNatClampNeg (vp_nar .boolean x)) := zws_set hk rfl
  have hP2 : va_P g.2.1 vwCl ((zws g M).set k (g.2.2.2.1 k, .inl (g.2.2.1.2.1, n, .inl (upd (M k) i.toNatClampNeg (vp_nar .boolean x))))) H1 := hP1
  have hD2 : va_D (zA g sz) ((zws g M).set k (g.2.2.2.1 k, .inl (g.2.2.1.2.1, n, .inl (upd (M k) i.toNatClampNeg (vp_nar .boolean x))))) := hD1
  rw [he] at hP2 hD2
  exact h p e s m args below meth c H1 locs1 ls sz C hP2 hD2 hS1 hL
theorem zg_alen {k n : Nat} {b : Bool} {v : Int32} (d : decode μ.2.1 pc = .ok (.arraylength, 1)) (hk : g.2.2.2.2[k]? = some (.inr ((b : Bool), n))) (hv : Int32.ofNat n = v) (h : Zg g μ mc ms ce sl B (pc + 1) L (.inl v :: S) M) : Zg g μ mc ms ce sl B pc L (.inr k :: S) M := by
  intro p e s m args below meth c H locs ls sz C hP hD hS hL
  have hh := h p e s m args below meth c H locs ls sz C hP hD hS hL
  cases b with
  | false => exact va_alen C.1 C.2.1 C.2.2.2.2.2.2.2.2.1.1 hP k 0 (zws_at hk) (ty := .int) rfl hv d hh
  | true => exact va_alen C.1 C.2.1 C.2.2.2.2.2.2.2.2.1.1 hP k 1 (zws_at hk) (ty := .boolean) rfl hv d hh
-- the end of a method
theorem zg_iret {v : Int32} {ty : FieldType} (d : decode μ.2.1 pc = .ok (.ireturn, 1)) (hr : μ.2.2.2.1 = some ty) (hn : narrow ty (.int v) = .int v) (hc : ce ≤ mc ∧ sl ≤ ms) (hB : B = (.inl (some v), M)) : Zg g μ mc ms ce sl B pc L [.inl v] M := by
  intro p e s m args below meth c H locs ls sz C hP hD hS hL
  refine W.widen (k := mc) (n := ms) hc.1 hc.2 (vx_ret ?_)
  exact W.zret (v := v) C.1 C.2.1 (C.2.2.1.trans hr) hn (fun t ht hW => ⟨⟨some v, M, hB, rfl, by rw [ht]; exact hP⟩, hS.F ht⟩) hS.2.2 d C.2.2.2.2.2.2.1
theorem zg_vret (d : decode μ.2.1 pc = .ok (.return_, 1)) (hr : μ.2.2.2.1 = none) (hc : ce ≤ mc ∧ sl ≤ ms) (hB : B = (.inl none, M)) : Zg g μ mc ms ce sl B pc L [] M := by
  intro p e s m args below meth c H locs ls sz C hP hD hS hL
  refine W.widen (k := mc) (n := ms) hc.1 hc.2 (vx_ret ?_)
  exact W.vret C.1 C.2.1 (C.2.2.1.trans hr) (fun t ht hW => ⟨⟨none, M, hB, rfl, by rw [ht]; exact hP⟩, hS.F ht⟩) hS.2.2 d C.2.2.2.2.2.2.1
/-- from the entry -/
theorem Zc.of {args : List SV} (hy : plainName μ.1.cls = true) (hin : Cond.code μ.1 μ.2.1 μ.2.2.1 μ.2.2.2.1 ∈ zTB) (hn : args.length ≤ μ.2.2.1) (hL : args.map some ++ List.replicate (μ.2.2.1 - args.length) none = L) (h : Zg g μ mc ms 0 0 B 0 L [] M) : Zc g μ mc ms args M B := by
  subst hL
  intro sz
  refine vx_ofW (cc := μ.2.1) (maxL := μ.2.2.1) (ret := μ.2.2.2.1) hy rfl ?_
  intro p e s m args' below meth c s₁ Bd hml ht hv
  obtain ⟨rfl, hsz, hP, hD, hK, hE⟩ := hv
  have hts := atoms_spec (ws := zwm μ) Bd.pre
  have hl := zL_entry g args (n := μ.2.2.1) hn
  rw [lg_entry_eq]
  generalize (lg_sl (args.map (zv g)) ++ List.replicate (μ.2.2.1 - (lg_sl (args.map (zv g))).length) Slot.unset).toArray = ls at hl ⊢
  exact h p e s m _ below meth c s.heap [] ls sz ⟨Bd.exec, Bd.bytes, Bd.returns, hml, findClass_of_methodNamed Bd.named, fun w hw => hts w (List.mem_cons_of_mem _ hw), Bd.notSynchronized, ht, hK, hsz, hE, hin⟩ hP (zD_self hD) va_S.rf hl
end ZGR
