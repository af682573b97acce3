/-! ===== NUMBERS THAT ARE NAT, in the law's walks; its links ===== -/
section
section ZN
variable {g : ZG} {μ : MI} {mc ms ce sl : Nat} {B : ZR} {pc : Nat} {L : List (Option SV)} {S : List SV} {M : Mem}
theorem zg_iremN {a d : Nat} (dd : decode μ.2.1 pc = .ok (.irem, 1)) (ha : a < 2 ^ 31) (h0 : 0 < d) (hd : d < 2 ^ 31) (h : Zg g μ mc ms ce sl B (pc + 1) L (.inl (nI (a % d)) :: S) M) : Zg g μ mc ms ce sl B pc L (.inl (nI d) :: .inl (nI a) :: S) M :=
  zg_irem dd (nI_ne0 h0 hd) (by rw [pk_rem ha h0 hd]; exact h)
theorem zg_idivN {a d : Nat} (dd : decode μ.2.1 pc = .ok (.idiv, 1)) (ha : a < 2 ^ 31) (h0 : 0 < d) (hd : d < 2 ^ 31) (h : Zg g μ mc ms ce sl B (pc + 1) L (.inl (nI (a / d)) :: S) M) : Zg g μ mc ms ce sl B pc L (.inl (nI d) :: .inl (nI a) :: S) M :=
  zg_idiv dd (nI_ne0 h0 hd) (by rw [pk_div ha h0 hd]; exact h)
theorem zg_iaddN {a b : Nat} (dd : decode μ.2.1 pc = .ok (.iadd, 1)) (h : Zg g μ mc ms ce sl B (pc + 1) L (.inl (nI (a + b)) :: S) M) : Zg g μ mc ms ce sl B pc L (.inl (nI b) :: .inl (nI a) :: S) M :=
  zg_iadd dd (by rw [nI_add]; exact h)
theorem zg_imulN {a b : Nat} (dd : decode μ.2.1 pc = .ok (.imul, 1)) (h : Zg g μ mc ms ce sl B (pc + 1) L (.inl (nI (a * b)) :: S) M) : Zg g μ mc ms ce sl B pc L (.inl (nI b) :: .inl (nI a) :: S) M :=
  zg_imul dd (by rw [pk_mul]; exact h)
theorem zg_isubN {a b : Nat} (dd : decode μ.2.1 pc = .ok (.isub, 1)) (hb : b ≤ a) (h : Zg g μ mc ms ce sl B (pc + 1) L (.inl (nI (a - b)) :: S) M) : Zg g μ mc ms ce sl B pc L (.inl (nI b) :: .inl (nI a) :: S) M :=
  zg_isub dd (by rw [pk_sub hb]; exact h)
theorem zg_iincN {k a : Nat} (d : decode μ.2.1 pc = .ok (.iinc k 1, 3)) (hl : L[k]? = some (some (.inl (nI a)))) (hk : k < μ.2.2.1) (h : Zg g μ mc ms ce sl B (pc + 3) (L.set k (some (.inl (nI (a + 1))))) S M) : Zg g μ mc ms ce sl B pc L S M :=
  zg_iinc (v := nI (a + 1)) d hl hk (nI_1 a) h
theorem zg_ialdN {k n i : Nat} {v : Int32} (d : decode μ.2.1 pc = .ok (.iaload, 1)) (hk : g.2.2.2.2[k]? = some (.inr (some false, n))) (hi : i < n) (hn : n < 2 ^ 31) (hv : M k i = v) (h : Zg g μ mc ms ce sl B (pc + 1) L (.inl v :: S) M) : Zg g μ mc ms ce sl B pc L (.inl (nI i) :: .inr k :: S) M :=
  zg_iald d hk (vp_in_nI hi hn) (by rw [nI_clamp (by omega), hv]; exact h)
theorem zg_iastN {k n i : Nat} {x : Int32} {M' : Mem} (d : decode μ.2.1 pc = .ok (.iastore, 1)) (hk : g.2.2.2.2[k]? = some (.inr (some false, n))) (hi : i < n) (hn : n < 2 ^ 31) (hM : mup M k i x = M') (h : Zg g μ mc ms ce sl B (pc + 1) L S M') : Zg g μ mc ms ce sl B pc L (.inl x :: .inl (nI i) :: .inr k :: S) M :=
  zg_iast d hk (vp_in_nI hi hn) (by rw [nI_clamp (by omega), hM]; exact h)
/-- a branch on equality of two numbers, known -/
theorem zg_eqT {off : Int} {tgt : Nat} {x y : Int32} (d : decode μ.2.1 pc = .ok (.if_icmp .ne off, 3)) (hc : x = y) (h : Zg g μ mc ms ce sl B (pc + 3) L S M) (ht : (pc : Int) + off = (tgt : Int) := by rfl) : Zg g μ mc ms ce sl B pc L (.inl y :: .inl x :: S) M :=
  zg_jf2 (tgt := tgt) d ht (fun q : ¬ x = y => q hc) h
end ZN
theorem nI_lt0 {n : Nat} (h : n < 2 ^ 31) : ¬ (nI n).toInt < 0 := by rw [nI_toInt h]; omega
end
