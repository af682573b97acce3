/-! ===== TREES: the answer of a method as a term that the walk peels ===== -/
def zlet {α β : Type} (a : α) (k : α → β) : β := k a
def bI (b : Bool) : Int32 := if b then 1 else 0
theorem bI_t : bI true = 1 := rfl
theorem bI_f : bI false = 0 := rfl
theorem bI_0 (b : Bool) : bI b = 0 ↔ b = false := by cases b <;> simp [bI]
theorem bI_nar (b : Bool) : narrow .boolean (.int (bI b)) = .int (bI b) := by cases b <;> rfl
theorem bI_vp (b : Bool) : vp_nar .boolean (bI b) = bI b := by cases b <;> rfl
/-- the wraps: what a method's term says of its answer and the memory -/
def wI (M : Mem) (v : Int32) : ZR := (.inl (some v), M)
def wB (M : Mem) (b : Bool) : ZR := (.inl (some (bI b)), M)
def wV (N : Mem) : ZR := (.inl none, N)
def wIM (q : Int32 × Mem) : ZR := (.inl (some q.1), q.2)
def wBM (q : Bool × Mem) : ZR := (.inl (some (bI q.1)), q.2)
/-- of methods that may throw -/
def xI (M : Mem) : Int32 ⊕ String → ZR := Sum.elim (fun v => (.inl (some v), M)) (fun E => (.inr E, M))
def xB (M : Mem) : Bool ⊕ String → ZR := Sum.elim (fun v => (.inl (some (bI v)), M)) (fun E => (.inr E, M))
def xV (q : (Unit ⊕ String) × Mem) : ZR := Sum.elim (fun _ => (.inl none, q.2)) (fun E => (.inr E, q.2)) q.1
def xIM (q : (Int32 ⊕ String) × Mem) : ZR := Sum.elim (fun v => (.inl (some v), q.2)) (fun E => (.inr E, q.2)) q.1
def xBM (q : (Bool ⊕ String) × Mem) : ZR := Sum.elim (fun v => (.inl (some (bI v)), q.2)) (fun E => (.inr E, q.2)) q.1
def zlkS (own : String) (idx : Nat) (ν : MI) (n : Nat) : Prop := Cond.methodLink own idx ν.1 ∈ zTB ∧ Cond.static ν.1 ∈ zTB ∧ zin ν n
def zlkN (own : String) (idx : Nat) (ν : MI) (n : Nat) : Prop := (∃ host : String, Cond.methodLinkNest own idx ν.1 host ∈ zNW) ∧ Cond.static ν.1 ∈ zTB ∧ zin ν n
def zlkV (own : String) (idx : Nat) (ν : MI) (n ci : Nat) : Prop := ∃ q : vw_C, vwCl[ci]? = some q ∧ Cond.methodLink own idx ν.1 ∈ zTB ∧ Cond.instanceMethod ν.1 ∈ zTB ∧ Cond.selects q.1 ν.1 ν.1 ∈ zTB ∧ zin ν n
section ZT
variable {g : ZG} {μ ν : MI} {mc ms ce sl : Nat} {pc : Nat} {L : List (Option SV)} {S S0 As : List SV} {M N0 : Mem} {α β : Type} {K : α → ZR}
theorem zg_st {B : ZR} {pc' : Nat} {L' : List (Option SV)} {S' : List SV} {M' : Mem} (hp : pc' = pc) (hL : L' = L) (hS : S' = S) (hM : M' = M) (h : Zg g μ mc ms ce sl B pc' L' S' M') : Zg g μ mc ms ce sl B pc L S M := by
  subst hp hL hS hM; exact h
theorem zg_ifz {cd : Jvm.ClassFile.Cond} {off : Int} {tgt : Nat} {x : Int32} {c : Prop} [Decidable c] {A₁ A₂ : α} (d : decode μ.2.1 pc = .ok (.ifCond cd off, 3)) (ht : (pc : Int) + off = (tgt : Int)) (hc : c = zc1 cd x) (h1 : c → Zg g μ mc ms ce sl (zlet A₁ K) tgt L S M) (h2 : ¬ c → Zg g μ mc ms ce sl (zlet A₂ K) (pc + 3) L S M) : Zg g μ mc ms ce sl (zlet (if c then A₁ else A₂) K) pc L (.inl x :: S) M := by
  subst hc
  exact zg_if d ht (fun q => by rw [if_pos q]; exact h1 q) (fun q => by rw [if_neg q]; exact h2 q)
theorem zg_icmpz {cd : Jvm.ClassFile.Cond} {off : Int} {tgt : Nat} {x y : Int32} {c : Prop} [Decidable c] {A₁ A₂ : α} (d : decode μ.2.1 pc = .ok (.if_icmp cd off, 3)) (ht : (pc : Int) + off = (tgt : Int)) (hc : c = zc2 cd x y) (h1 : c → Zg g μ mc ms ce sl (zlet A₁ K) tgt L S M) (h2 : ¬ c → Zg g μ mc ms ce sl (zlet A₂ K) (pc + 3) L S M) : Zg g μ mc ms ce sl (zlet (if c then A₁ else A₂) K) pc L (.inl y :: .inl x :: S) M := by
  subst hc
  exact zg_icmp d ht (fun q => by rw [if_pos q]; exact h1 q) (fun q => by rw [if_neg q]; exact h2 q)
/-- the branch on a boolean: taken where it is false (eq), true (ne) -/
theorem zg_ifbe {off : Int} {tgt : Nat} {b : Bool} {A₁ A₂ : α} (d : decode μ.2.1 pc = .ok (.ifCond .eq off, 3)) (ht : (pc : Int) + off = (tgt : Int)) (h1 : b = true → Zg g μ mc ms ce sl (zlet A₁ K) (pc + 3) L S M) (h2 : b = false → Zg g μ mc ms ce sl (zlet A₂ K) tgt L S M) : Zg g μ mc ms ce sl (zlet (if b then A₁ else A₂) K) pc L (.inl (bI b) :: S) M := by
  cases b with
  | true => exact zg_if d ht (fun q => absurd (show (1 : Int32) = 0 from q) (by decide)) (fun _ => h1 rfl)
  | false => exact zg_if d ht (fun _ => h2 rfl) (fun q => absurd (show (0 : Int32) = 0 from rfl) q)
theorem zg_ifbn {off : Int} {tgt : Nat} {b : Bool} {A₁ A₂ : α} (d : decode μ.2.1 pc = .ok (.ifCond .ne off, 3)) (ht : (pc : Int) + off = (tgt : Int)) (h1 : b = true → Zg g μ mc ms ce sl (zlet A₁ K) tgt L S M) (h2 : b = false → Zg g μ mc ms ce sl (zlet A₂ K) (pc + 3) L S M) : Zg g μ mc ms ce sl (zlet (if b then A₁ else A₂) K) pc L (.inl (bI b) :: S) M := by
  cases b with
  | true => exact zg_if d ht (fun _ => h1 rfl) (fun q => absurd (fun z : (1 : Int32) = 0 => absurd z (by decide)) q)
  | false => exact zg_if d ht (fun q => absurd (show (0 : Int32) = 0 from rfl) q) (fun _ => h2 rfl)
theorem zg_jt {B : ZR} {cd : Jvm.ClassFile.Cond} {off : Int} {tgt : Nat} {x : Int32} (d : decode μ.2.1 pc = .ok (.ifCond cd off, 3)) (ht : (pc : Int) + off = (tgt : Int)) (hc : zc1 cd x) (h : Zg g μ mc ms ce sl B tgt L S M) : Zg g μ mc ms ce sl B pc L (.inl x :: S) M := zg_if d ht (fun _ => h) (fun q => absurd hc q)
theorem zg_jf {B : ZR} {cd : Jvm.ClassFile.Cond} {off : Int} {tgt : Nat} {x : Int32} (d : decode μ.2.1 pc = .ok (.ifCond cd off, 3)) (ht : (pc : Int) + off = (tgt : Int)) (hc : ¬ zc1 cd x) (h : Zg g μ mc ms ce sl B (pc + 3) L S M) : Zg g μ mc ms ce sl B pc L (.inl x :: S) M := zg_if d ht (fun q => absurd q hc) (fun _ => h)
theorem zg_jt2 {B : ZR} {cd : Jvm.ClassFile.Cond} {off : Int} {tgt : Nat} {x y : Int32} (d : decode μ.2.1 pc = .ok (.if_icmp cd off, 3)) (ht : (pc : Int) + off = (tgt : Int)) (hc : zc2 cd x y) (h : Zg g μ mc ms ce sl B tgt L S M) : Zg g μ mc ms ce sl B pc L (.inl y :: .inl x :: S) M := zg_icmp d ht (fun _ => h) (fun q => absurd hc q)
theorem zg_jf2 {B : ZR} {cd : Jvm.ClassFile.Cond} {off : Int} {tgt : Nat} {x y : Int32} (d : decode μ.2.1 pc = .ok (.if_icmp cd off, 3)) (ht : (pc : Int) + off = (tgt : Int)) (hc : ¬ zc2 cd x y) (h : Zg g μ mc ms ce sl B (pc + 3) L S M) : Zg g μ mc ms ce sl B pc L (.inl y :: .inl x :: S) M := zg_icmp d ht (fun q => absurd q hc) (fun _ => h)
/-- a join: the tree gives what differs, then one road -/
theorem zg_join {tree : β} {k : β → α} {pc' : Nat} {Lf : β → List (Option SV)} {Sf : β → List SV} {Mf : β → Mem} (J : ∀ j : β, Zg g μ mc ms ce sl (zlet (k j) K) pc' (Lf j) (Sf j) (Mf j))
    (h : (∀ j : β, Zg g μ mc ms ce sl (zlet j (fun j => zlet (k j) K)) pc' (Lf j) (Sf j) (Mf j)) → Zg g μ mc ms ce sl (zlet tree (fun j => zlet (k j) K)) pc L S M) : Zg g μ mc ms ce sl (zlet (zlet tree k) K) pc L S M := h J
theorem zg_asc {B : β} {k : β → α} (h : Zg g μ mc ms ce sl (zlet B (fun j => zlet (k j) K)) pc L S M) : Zg g μ mc ms ce sl (zlet (zlet B k) K) pc L S M := h
-- calls of methods that don't throw: what they answer
theorem zg_cS {B : ZR} {n idx : Nat} {r : Option Int32} (d : decode μ.2.1 pc = .ok (.invokestatic idx, 3)) (hk : zlkS μ.1.cls idx ν n) (hm : Zc g ν 0 0 As M (.inl r, N0)) (hn : As.length = n) (hf : zfit μ ν) (hc : ce ≤ mc ∧ sl ≤ ms) (hS0 : As.reverse ++ S = S0) (hw : S.length ≤ 8) (h : Zg g μ mc ms ce sl B (pc + 3) L (r.toList.map Sum.inl ++ S) N0) : Zg g μ mc ms ce sl B pc L S0 M :=
  zg_callS d hm hk.1 hk.2.1 hk.2.2 hn hf hc hS0 hw (fun E N q => by cases q) (fun r' N q => by cases q; exact h)
theorem zg_cN {B : ZR} {n idx : Nat} {r : Option Int32} (d : decode μ.2.1 pc = .ok (.invokestatic idx, 3)) (hk : zlkN μ.1.cls idx ν n) (hm : Zc g ν 0 0 As M (.inl r, N0)) (hn : As.length = n) (hf : zfit μ ν) (hc : ce ≤ mc ∧ sl ≤ ms) (hS0 : As.reverse ++ S = S0) (hw : S.length ≤ 8) (h : Zg g μ mc ms ce sl B (pc + 3) L (r.toList.map Sum.inl ++ S) N0) : Zg g μ mc ms ce sl B pc L S0 M := by
  obtain ⟨⟨host, h1⟩, h2, h3⟩ := hk
  exact zg_callSN d hm h1 h2 h3 hn hf hc hS0 hw (fun E N q => by cases q) (fun r' N q => by cases q; exact h)
theorem zg_cV {B : ZR} {n idx k ci : Nat} {fs : List (Option Nat)} {r : Option Int32} (d : decode μ.2.1 pc = .ok (.invokevirtual idx, 3)) (hk : zlkV μ.1.cls idx ν n ci) (hm : Zc g ν 0 0 (.inr k :: As) M (.inl r, N0)) (hcell : g.2.2.2.2[k]? = some (.inl (ci, fs))) (hn : As.length = n) (hf : zfit μ ν) (hc : ce ≤ mc ∧ sl ≤ ms) (hS0 : As.reverse ++ .inr k :: S = S0) (hw : S.length ≤ 8) (h : Zg g μ mc ms ce sl B (pc + 3) L (r.toList.map Sum.inl ++ S) N0) : Zg g μ mc ms ce sl B pc L S0 M := by
  obtain ⟨q, h0, h1, h2, h3, h4⟩ := hk
  exact zg_callV d hm h1 h2 h3 hcell h0 h4 hn hf hc hS0 hw (fun E N q => by cases q) (fun r' N q => by cases q; exact h)
-- the same, the answer and the memory behind it by a name
theorem zg_cVIM {F : Int32 × Mem} {f : Int32 × Mem → α} {n idx k ci : Nat} {fs : List (Option Nat)} (d : decode μ.2.1 pc = .ok (.invokevirtual idx, 3)) (hk : zlkV μ.1.cls idx ν n ci) (hm : Zc g ν 0 0 (.inr k :: As) M (wIM F)) (hcell : g.2.2.2.2[k]? = some (.inl (ci, fs))) (hn : As.length = n) (hf : zfit μ ν) (hc : ce ≤ mc ∧ sl ≤ ms) (hS0 : As.reverse ++ .inr k :: S = S0) (hw : S.length ≤ 8) (h : ∀ q : Int32 × Mem, q = F → Zg g μ mc ms ce sl (zlet (f q) K) (pc + 3) L (.inl q.1 :: S) q.2) : Zg g μ mc ms ce sl (zlet (zlet F f) K) pc L S0 M :=
  zg_cV d hk (r := some F.1) (N0 := F.2) hm hcell hn hf hc hS0 hw (h F rfl)
theorem zg_cVBM {F : Bool × Mem} {f : Bool × Mem → α} {n idx k ci : Nat} {fs : List (Option Nat)} (d : decode μ.2.1 pc = .ok (.invokevirtual idx, 3)) (hk : zlkV μ.1.cls idx ν n ci) (hm : Zc g ν 0 0 (.inr k :: As) M (wBM F)) (hcell : g.2.2.2.2[k]? = some (.inl (ci, fs))) (hn : As.length = n) (hf : zfit μ ν) (hc : ce ≤ mc ∧ sl ≤ ms) (hS0 : As.reverse ++ .inr k :: S = S0) (hw : S.length ≤ 8) (h : ∀ q : Bool × Mem, q = F → Zg g μ mc ms ce sl (zlet (f q) K) (pc + 3) L (.inl (bI q.1) :: S) q.2) : Zg g μ mc ms ce sl (zlet (zlet F f) K) pc L S0 M :=
  zg_cV d hk (r := some (bI F.1)) (N0 := F.2) hm hcell hn hf hc hS0 hw (h F rfl)
theorem zg_cVV {F : Mem} {f : Mem → α} {n idx k ci : Nat} {fs : List (Option Nat)} (d : decode μ.2.1 pc = .ok (.invokevirtual idx, 3)) (hk : zlkV μ.1.cls idx ν n ci) (hm : Zc g ν 0 0 (.inr k :: As) M (wV F)) (hcell : g.2.2.2.2[k]? = some (.inl (ci, fs))) (hn : As.length = n) (hf : zfit μ ν) (hc : ce ≤ mc ∧ sl ≤ ms) (hS0 : As.reverse ++ .inr k :: S = S0) (hw : S.length ≤ 8) (h : ∀ N : Mem, N = F → Zg g μ mc ms ce sl (zlet (f N) K) (pc + 3) L S N) : Zg g μ mc ms ce sl (zlet (zlet F f) K) pc L S0 M :=
  zg_cV d hk (r := none) (N0 := F) hm hcell hn hf hc hS0 hw (h F rfl)
theorem zg_cSV {F : Mem} {f : Mem → α} {n idx : Nat} (d : decode μ.2.1 pc = .ok (.invokestatic idx, 3)) (hk : zlkS μ.1.cls idx ν n) (hm : Zc g ν 0 0 As M (wV F)) (hn : As.length = n) (hf : zfit μ ν) (hc : ce ≤ mc ∧ sl ≤ ms) (hS0 : As.reverse ++ S = S0) (hw : S.length ≤ 8) (h : ∀ N : Mem, N = F → Zg g μ mc ms ce sl (zlet (f N) K) (pc + 3) L S N) : Zg g μ mc ms ce sl (zlet (zlet F f) K) pc L S0 M :=
  zg_cS d hk (r := none) (N0 := F) hm hn hf hc hS0 hw (h F rfl)
/-- a static call that may throw, and its answer is handed on at once -/
theorem zg_cSX {F : Int32 ⊕ String} {n idx : Nat} (d : decode μ.2.1 pc = .ok (.invokestatic idx, 3)) (dr : decode μ.2.1 (pc + 3) = .ok (.ireturn, 1)) (hr : μ.2.2.2.1 = some .int) (hk : zlkS μ.1.cls idx ν n) (hm : Zc g ν 1 6 As M (xI M F)) (hn : As.length = n) (hf : zfit μ ν) (hS0 : As.reverse = S0) : Zg g μ 1 6 0 0 (xI M F) pc L S0 M := by
  refine zg_callS d hm hk.1 hk.2.1 hk.2.2 hn hf ⟨Nat.le_refl _, Nat.le_refl _⟩ (S := []) (by rw [List.append_nil]; exact hS0) (Nat.zero_le _) (fun E N q => q) (fun r N q => ?_)
  cases F with
  | inl v =>
    cases q
    exact zg_iret dr hr rfl ⟨Nat.le_refl _, Nat.le_refl _⟩ rfl
  | inr E => cases q
end ZT
-- numbers
theorem z_up {C v : Int32} {n : Nat} (h : ¬ C ≤ v) (hn : (C.toInt - v.toInt).toNat < n + 1) : (C.toInt - (v + 1).toInt).toNat < n := by
  rw [Int32.le_iff_toInt_le] at h
  have h1 := Int32.toInt_lt C
  have h2 := Int32.le_toInt v
  have e : (v + 1).toInt = v.toInt + 1 := by
    rw [Int32.toInt_add, Int32.toInt_one, Int.bmod_eq_of_le] <;> omega
  omega
theorem z_upe {C v : Int32} {n : Nat} (h : ¬ C < v) (hC : C.toInt < 2 ^ 30) (hn : (C.toInt + 1 - v.toInt).toNat < n + 1) : (C.toInt + 1 - (v + 1).toInt).toNat < n := by
  rw [Int32.lt_iff_toInt_lt] at h
  have h2 := Int32.le_toInt v
  have e : (v + 1).toInt = v.toInt + 1 := by
    rw [Int32.toInt_add, Int32.toInt_one, Int.bmod_eq_of_le] <;> omega
  omega
theorem z_dn {C v : Int32} {n : Nat} (h : ¬ v < C) (hC : -(2 ^ 30) < C.toInt) (hn : (v.toInt + 1 - C.toInt).toNat < n + 1) : ((v + (-1)).toInt + 1 - C.toInt).toNat < n := by
  rw [Int32.lt_iff_toInt_lt] at h
  have h2 := Int32.toInt_lt v
  have e : (v + (-1)).toInt = v.toInt - 1 := by
    rw [Int32.toInt_add, show (-1 : Int32).toInt = -1 from rfl, Int.bmod_eq_of_le] <;> omega
  omega
section ZT2
variable {g : ZG} {μ ν : MI} {mc ms ce sl : Nat} {pc : Nat} {L : List (Option SV)} {S S0 As : List SV} {M N0 : Mem}
theorem zg_cS1 {B : ZR} {n idx : Nat} {v : Int32} (d : decode μ.2.1 pc = .ok (.invokestatic idx, 3)) (hk : zlkS μ.1.cls idx ν n) (hm : Zc g ν 0 0 As M (.inl (some v), N0)) (hn : As.length = n) (hf : zfit μ ν) (hc : ce ≤ mc ∧ sl ≤ ms) (hS0 : As.reverse ++ S = S0) (hw : S.length ≤ 8) (h : Zg g μ mc ms ce sl B (pc + 3) L (.inl v :: S) N0) : Zg g μ mc ms ce sl B pc L S0 M := zg_cS d hk hm hn hf hc hS0 hw h
theorem zg_cN1 {B : ZR} {n idx : Nat} {v : Int32} (d : decode μ.2.1 pc = .ok (.invokestatic idx, 3)) (hk : zlkN μ.1.cls idx ν n) (hm : Zc g ν 0 0 As M (.inl (some v), N0)) (hn : As.length = n) (hf : zfit μ ν) (hc : ce ≤ mc ∧ sl ≤ ms) (hS0 : As.reverse ++ S = S0) (hw : S.length ≤ 8) (h : Zg g μ mc ms ce sl B (pc + 3) L (.inl v :: S) N0) : Zg g μ mc ms ce sl B pc L S0 M := zg_cN d hk hm hn hf hc hS0 hw h
theorem zg_cV1 {B : ZR} {n idx k ci : Nat} {fs : List (Option Nat)} {v : Int32} (d : decode μ.2.1 pc = .ok (.invokevirtual idx, 3)) (hk : zlkV μ.1.cls idx ν n ci) (hm : Zc g ν 0 0 (.inr k :: As) M (.inl (some v), N0)) (hcell : g.2.2.2.2[k]? = some (.inl (ci, fs))) (hn : As.length = n) (hf : zfit μ ν) (hc : ce ≤ mc ∧ sl ≤ ms) (hS0 : As.reverse ++ .inr k :: S = S0) (hw : S.length ≤ 8) (h : Zg g μ mc ms ce sl B (pc + 3) L (.inl v :: S) N0) : Zg g μ mc ms ce sl B pc L S0 M := zg_cV d hk hm hcell hn hf hc hS0 hw h
/-- fewer locals known -/
def zle : List (Option SV) → List (Option SV) → Prop
  | [], [] => True
  | none :: r, _ :: s => zle r s
  | some v :: r, some w :: s => v = w ∧ zle r s
  | _, _ => False
theorem zle_at : ∀ (L' L : List (Option SV)), zle L' L → L'.length = L.length ∧ ∀ (i : Nat) (v : SV), L'[i]? = some (some v) → L[i]? = some (some v)
  | [], [], _ => ⟨rfl, fun i v h => by simp at h⟩
  | none :: r, _ :: s, h => by
    obtain ⟨h1, h2⟩ := zle_at r s h
    refine ⟨by simp [h1], fun i v hi => ?_⟩
    cases i with
    | zero => simp at hi
    | succ i => simpa using h2 i v (by simpa using hi)
  | some v :: r, some w :: s, h => by
    obtain ⟨h1, h2⟩ := zle_at r s h.2
    refine ⟨by simp [h1], fun i u hi => ?_⟩
    cases i with
    | zero =>
      have e : v = u := by simpa using hi
      simp [← e, h.1]
    | succ i => simpa using h2 i u (by simpa using hi)
  | some _ :: _, none :: _, h => h.elim
  | some _ :: _, [], h => h.elim
  | none :: _, [], h => h.elim
  | [], _ :: _, h => h.elim
theorem zg_drop {B : ZR} {L' : List (Option SV)} (hl : zle L' L) (h : Zg g μ mc ms ce sl B pc L' S M) : Zg g μ mc ms ce sl B pc L S M := by
  obtain ⟨h1, h2⟩ := zle_at L' L hl
  exact fun p e s m args below meth c H locs ls sz C hP hD hS hL => h p e s m args below meth c H locs ls sz C hP hD hS ⟨hL.1, hL.2.1, by rw [h1]; exact hL.2.2.1, fun i v hi => hL.2.2.2 i v (h2 i v hi)⟩
end ZT2
-- the two worlds
abbrev ZQ : Type := Launch × va_G × (ClassId × ClassId × ClassId) × (Nat → Nat)
abbrev shX : List ShE := [.inl (4, [some 1, some 2, some 3, some 4, some 5, none]), .inl (0, [some 6, some 7, some 8, some 9]), .inl (3, [some 10, some 11, some 12, some 13, some 14]), .inl (2, [some 15, none]), .inl (1, [some 16, some 17, some 18, some 19]),
  .inr (false, 4), .inr (true, 120), .inr (true, 240), .inr (true, 6), .inr (false, 6), .inr (false, 48), .inr (false, 53), .inr (false, 53), .inr (false, 53), .inr (false, 53), .inr (false, 48), .inr (false, 3), .inr (false, 3), .inr (false, 53), .inr (false, 53)]
abbrev zgX (q : ZQ) : ZG := (q.1, q.2.1, q.2.2.1, q.2.2.2, shX)
section ZT3
variable {g : ZG} {μ : MI} {mc ms ce sl : Nat} {pc : Nat} {L : List (Option SV)} {S : List SV} {M : Mem} {B : ZR}
/-- the branch on a boolean that is known already -/
theorem zg_kbeqt {off : Int} {tgt : Nat} {b : Bool} (d : decode μ.2.1 pc = .ok (.ifCond .eq off, 3)) (ht : (pc : Int) + off = (tgt : Int)) (hb : b = true) (h : Zg g μ mc ms ce sl B (pc + 3) L S M) : Zg g μ mc ms ce sl B pc L (.inl (bI b) :: S) M := by
  subst hb; exact zg_jf d ht (show ¬ ((1 : Int32) = 0) by decide) h
theorem zg_kbeqf {off : Int} {tgt : Nat} {b : Bool} (d : decode μ.2.1 pc = .ok (.ifCond .eq off, 3)) (ht : (pc : Int) + off = (tgt : Int)) (hb : b = false) (h : Zg g μ mc ms ce sl B tgt L S M) : Zg g μ mc ms ce sl B pc L (.inl (bI b) :: S) M := by
  subst hb; exact zg_jt d ht (show (0 : Int32) = 0 from rfl) h
theorem zg_kbnet {off : Int} {tgt : Nat} {b : Bool} (d : decode μ.2.1 pc = .ok (.ifCond .ne off, 3)) (ht : (pc : Int) + off = (tgt : Int)) (hb : b = true) (h : Zg g μ mc ms ce sl B tgt L S M) : Zg g μ mc ms ce sl B pc L (.inl (bI b) :: S) M := by
  subst hb; exact zg_jt d ht (show ¬ ((1 : Int32) = 0) by decide) h
theorem zg_kbnef {off : Int} {tgt : Nat} {b : Bool} (d : decode μ.2.1 pc = .ok (.ifCond .ne off, 3)) (ht : (pc : Int) + off = (tgt : Int)) (hb : b = false) (h : Zg g μ mc ms ce sl B (pc + 3) L S M) : Zg g μ mc ms ce sl B pc L (.inl (bI b) :: S) M := by
  subst hb; exact zg_jf d ht (show ¬ (¬ ((0 : Int32) = 0)) by decide) h
end ZT3
