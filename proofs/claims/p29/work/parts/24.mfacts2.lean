/-! ===== FACTS of the reference: what its methods leave of the places ===== -/
theorem sp_copy {a b c d : Int32} {N : Mem} (h : PlM N) : PlM (f_X5_copy a b c d N).2 := by
  unfold f_X5_copy
  repeat' split
  all_goals first | exact h | exact PlM_up (by decide) (by decide) h
theorem sp_copyE {q : Int32 × Mem} {a b c d : Int32} {N : Mem} (e : q = f_X5_copy a b c d N) (h : PlM N) : PlM q.2 := by rw [e]; exact sp_copy h
theorem sp_l_readOn (x1 : Int32) : ∀ (n : Nat) (v2 : Bool) (v3 : Int32) (N : Mem), PlM N → PlM (l_X5_readOn_4 x1 n v2 v3 N).2.2 := by
  intro n
  induction n with
  | zero => intro v2 v3 N h; exact h
  | succ n ih =>
    intro v2 v3 N h
    show PlM (b_X5_readOn_4 x1 (l_X5_readOn_4 x1 n) v2 v3 N).2.2
    unfold b_X5_readOn_4
    simp only [zlet]
    repeat' split
    all_goals first | exact h | exact ih _ _ _ (PlM_up (by decide) (by decide) h) | exact ih _ _ _ (PlM_up (by decide) (by decide) (sp_heal h))
theorem sp_readOn {p : Int32} {M : Mem} (h : PlM M) : PlM (f_X5_readOn p M) := sp_l_readOn p 5 false 0 M h
theorem sp_rit {p : Int32} {M : Mem} (h : PlM M) : PlM (f_X5_readIfThere p M) := by
  unfold f_X5_readIfThere
  simp only [zlet]
  split
  · exact sp_readOn h
  · exact h
theorem sp_ritE {p : Int32} {M N : Mem} (e : N = f_X5_readIfThere p M) (h : PlM M) : PlM N := by rw [e]; exact sp_rit h
theorem sp_healAll {p : Int32} {M : Mem} (h : PlM M) : PlM (f_X5_healAll p M).2 := by
  unfold f_X5_healAll
  simp only [zlet]
  split
  · exact sp_heal (sp_heal (sp_heal (sp_heal h)))
  · exact h
theorem sp_healAllE {q : Int32 × Mem} {p : Int32} {M : Mem} (e : q = f_X5_healAll p M) (h : PlM M) : PlM q.2 := by rw [e]; exact sp_healAll h
/-- the places, and those that a sync has chosen -/
abbrev PlN (M : Mem) : Prop := PlM M ∧ zPl (M 14) ∧ zPl (M 15)
theorem PlN_up {M : Mem} {k i : Nat} {v : Int32} (h : 4 ≠ k ∧ 5 ≠ k ∧ 14 ≠ k ∧ 15 ≠ k) (hM : PlN M) : PlN (mup M k i v) := by
  refine ⟨PlM_up h.1 h.2.1 hM.1, ?_, ?_⟩
  · unfold mup; rw [mset_ne h.2.2.1]; exact hM.2.1
  · unfold mup; rw [mset_ne h.2.2.2]; exact hM.2.2
theorem sp_mark {p : Int32} {M : Mem} (h : PlN M) : PlN (f_X5_mark p M) := by
  unfold f_X5_mark
  split
  · exact h
  · exact PlN_up (by decide) h
theorem sp_markE {p : Int32} {M N : Mem} (e : N = f_X5_mark p M) (h : PlN M) : PlN N := by rw [e]; exact sp_mark h
theorem sp_l_clean (x1 : Int32) : ∀ (n : Nat) (v2 : Int32) (N : Mem), PlN N → PlN (l_X5_clean_2 x1 n v2 N).2 := by
  intro n
  induction n with
  | zero => intro v2 N h; exact h
  | succ n ih =>
    intro v2 N h
    show PlN (b_X5_clean_2 x1 (l_X5_clean_2 x1 n) v2 N).2
    unfold b_X5_clean_2
    repeat' split
    all_goals first | exact h | exact ih _ _ h | exact ih _ _ (PlN_up (by decide) h)
theorem sp_cleanE {p : Int32} {M N : Mem} (e : N = f_X5_clean p M) (h : PlN M) : PlN N := by rw [e]; exact sp_l_clean p 3 0 M h
theorem zPl_upd {f : Nat → Int32} {k : Nat} {x : Int32} (h : zPl f) (hx : -1 ≤ x.toInt ∧ x.toInt < 120) : zPl (upd f k x) := by
  intro j hj
  by_cases e : j = k
  · rw [e, pk_us]; exact hx
  · rw [pk_un e]; exact h j hj
theorem PlN_set {v : Int32} {N : Mem} (hv : vp_in v 53) (h : PlN N) : PlN (mup (mup N 4 v.toNatClampNeg (N 14 v.toNatClampNeg)) 5 v.toNatClampNeg ((mup N 4 v.toNatClampNeg (N 14 v.toNatClampNeg)) 15 v.toNatClampNeg)) := by
  have e15 : (mup N 4 v.toNatClampNeg (N 14 v.toNatClampNeg)) 15 = N 15 := mset_ne (by decide)
  refine ⟨⟨?_, ?_⟩, ?_, ?_⟩
  · rw [e15]
    unfold mup
    rw [mset_ne (by decide), mset_eq]
    exact zPl_upd h.1.1 (h.2.1 _ (z_cl hv))
  · rw [e15]
    unfold mup
    rw [mset_eq, mset_ne (by decide)]
    exact zPl_upd h.1.2 (h.2.2 _ (z_cl hv))
  · unfold mup
    rw [mset_ne (by decide), mset_ne (by decide)]
    exact h.2.1
  · unfold mup
    rw [mset_ne (by decide), mset_ne (by decide)]
    exact h.2.2
