/-! ===== PURE: reading a pointer ===== -/
section
theorem u_pl0 {p : Int32} {M : Mem} (hp : 0 ≤ p.toInt ∧ p.toInt < 53) : f_X3_placeOf p 0 M = M 11 p.toNatClampNeg := by
  unfold f_X3_placeOf; rw [if_pos (q_isPointer.mpr hp), if_neg (by decide)]
theorem u_pl1 {p : Int32} {M : Mem} (hp : 0 ≤ p.toInt ∧ p.toInt < 53) : f_X3_placeOf p 1 M = M 12 p.toNatClampNeg := by
  unfold f_X3_placeOf; rw [if_pos (q_isPointer.mpr hp), if_pos (by decide), if_neg (by decide)]
theorem y_pN {p : Int32} (hp : 0 ≤ p.toInt ∧ p.toInt < 53) : p.toNatClampNeg < 53 := by simp only [Int32.toNatClampNeg]; omega
theorem r_missing {n : Int} {d p : Int32} {M N : Mem} (h : zRI n d M N) (hp : 0 ≤ p.toInt ∧ p.toInt < 53) : f_X3_isMissing p M = ! f_X5_isThere p N := by
  unfold f_X3_isMissing f_X5_isThere
  rw [u_pl0 hp, h.1.2.2.1 _ (y_pN hp)]
  by_cases e : N 4 p.toNatClampNeg = -1 <;> simp [e]
theorem r_fetch {n : Int} {d p : Int32} {M N : Mem} (h : zRI n d M N) (hp : 0 ≤ p.toInt ∧ p.toInt < 53) : f_X4_canFetch p M = f_X5_isReadable p N := by
  have k := h.2.1 _ (y_pN hp)
  rw [u_canFetch, u_isReadable, u_pl0 hp, u_pl1 hp, r_good h.1 (Or.inl rfl) k.1, r_good h.1 (Or.inr rfl) k.1, r_good h.1 (Or.inl rfl) k.2, r_good h.1 (Or.inr rfl) k.2, h.1.2.2.1 _ (y_pN hp), h.1.2.2.2.1 _ (y_pN hp)]
theorem r_unread {n : Int} {d p : Int32} {M N : Mem} (h : zRI n d M N) (hp : 0 ≤ p.toInt ∧ p.toInt < 53) : f_X4_isUnreadable p M = (f_X5_isThere p N && ! f_X5_isReadable p N) := by
  unfold f_X4_isUnreadable
  rw [r_missing h hp, r_fetch h hp]
  cases f_X5_isThere p N <;> cases f_X5_isReadable p N <;> simp
theorem u_isCut {a b : Int32} {N : Mem} : f_X5_isCut a b N = ((f_X5_isThere 52 N && ! f_X5_isReadable 52 N) || (f_X5_isThere (48 + a) N && ! f_X5_isReadable (48 + a) N) || (f_X5_isThere (12 * a + b) N && ! f_X5_isReadable (12 * a + b) N)) := by
  unfold f_X5_isCut
  simp only [zlet]
  cases f_X5_isThere 52 N <;> cases f_X5_isReadable 52 N <;> cases f_X5_isThere (48 + a) N <;> cases f_X5_isReadable (48 + a) N <;> cases f_X5_isThere (12 * a + b) N <;> cases f_X5_isReadable (12 * a + b) N <;> simp
/-- a step of reading, at the place c -/
theorem u_hug {x1 x3 c v : Int32} {M : Mem} : l_X4_healUpToGoodCell_23 x1 x3 c 3 v 0 M = (if f_X0_isGood c 0 M then .inl (v, M) else if f_X0_isGood c 1 (f_X0_heal c 0 M).2 then .inl (v + (f_X0_heal c 0 M).1, (f_X0_heal c 0 M).2) else .inr (v + (f_X0_heal c 0 M).1 + (f_X0_heal c 1 (f_X0_heal c 0 M).2).1, 2, (f_X0_heal c 1 (f_X0_heal c 0 M).2).2)) := by
  simp only [zlet, l_X4_healUpToGoodCell_23, b_X4_healUpToGoodCell_23, Int32.reduceLE, if_false, if_true, Int32.reduceAdd]
/-- a step of readOn's loop, read as the class's -/
def rdS (c s : Int32) (N : Mem) : Mem := if f_X5_isGood c s N then mup N 0 2 (N 0 2 + 0) else mup (f_X5_heal c s N).2 0 2 (N 0 2 + (f_X5_heal c s N).1)
theorem u_rd0 {x : Int32} {k : Nat} {N : Mem} : l_X5_readOn_4 x (k + 1) false 0 N = l_X5_readOn_4 x k (f_X5_isGood (N 4 x.toNatClampNeg) 0 N) 1 (rdS (N 4 x.toNatClampNeg) 0 N) := by
  show b_X5_readOn_4 x (l_X5_readOn_4 x k) false 0 N = _
  have e : (0 : Int32) - 0 / 2 * 2 = 0 := by decide
  simp only [b_X5_readOn_4, zlet, rdS, Int32.reduceLE, if_false, Bool.false_eq_true, e, Int32.reduceAdd]
  split <;> rfl
theorem u_rd1 {x : Int32} {k : Nat} {N : Mem} : l_X5_readOn_4 x (k + 1) false 1 N = l_X5_readOn_4 x k (f_X5_isGood (N 4 x.toNatClampNeg) 1 N) 2 (rdS (N 4 x.toNatClampNeg) 1 N) := by
  show b_X5_readOn_4 x (l_X5_readOn_4 x k) false 1 N = _
  have e : (1 : Int32) - 1 / 2 * 2 = 1 := by decide
  simp only [b_X5_readOn_4, zlet, rdS, Int32.reduceLE, if_false, Bool.false_eq_true, e, Int32.reduceAdd]
  split <;> rfl
theorem u_rd2 {x : Int32} {k : Nat} {N : Mem} : l_X5_readOn_4 x (k + 1) false 2 N = l_X5_readOn_4 x k (f_X5_isGood (N 5 x.toNatClampNeg) 0 N) 3 (rdS (N 5 x.toNatClampNeg) 0 N) := by
  show b_X5_readOn_4 x (l_X5_readOn_4 x k) false 2 N = _
  have e : (2 : Int32) - 2 / 2 * 2 = 0 := by decide
  simp only [b_X5_readOn_4, zlet, rdS, Int32.reduceLE, if_false, if_true, Bool.false_eq_true, e, Int32.reduceAdd]
  split <;> rfl
theorem u_rd3 {x : Int32} {k : Nat} {N : Mem} : l_X5_readOn_4 x (k + 1) false 3 N = l_X5_readOn_4 x k (f_X5_isGood (N 5 x.toNatClampNeg) 1 N) 4 (rdS (N 5 x.toNatClampNeg) 1 N) := by
  show b_X5_readOn_4 x (l_X5_readOn_4 x k) false 3 N = _
  have e : (3 : Int32) - 3 / 2 * 2 = 1 := by decide
  simp only [b_X5_readOn_4, zlet, rdS, Int32.reduceLE, if_false, if_true, Bool.false_eq_true, e, Int32.reduceAdd]
  split <;> rfl
theorem u_rdT {x v : Int32} {k : Nat} {N : Mem} : (l_X5_readOn_4 x k true v N).2.2 = N := by
  cases k with
  | zero => rfl
  | succ k =>
    show (b_X5_readOn_4 x (l_X5_readOn_4 x k) true v N).2.2 = N
    unfold b_X5_readOn_4
    split <;> simp
theorem u_rd4 {x : Int32} {k : Nat} {N : Mem} : (l_X5_readOn_4 x k false 4 N).2.2 = N := by
  cases k with
  | zero => rfl
  | succ k =>
    show (b_X5_readOn_4 x (l_X5_readOn_4 x k) false 4 N).2.2 = N
    unfold b_X5_readOn_4
    rw [if_pos (by decide)]
/-- what stays: places, values and buffers -/
def sK (M M' : Mem) : Prop := ∀ j, j ≠ 7 → M' j = M j
theorem sK.trans {A B C : Mem} (h : sK A B) (k : sK B C) : sK A C := fun j hj => (k j hj).trans (h j hj)
theorem sK.of {M : Mem} {f : Nat → Int32} {M' : Mem} (h : M' = mset M 7 f) : sK M M' := fun j hj => by rw [h, mset_ne hj]
theorem sK.refl (M : Mem) : sK M M := fun _ _ => rfl
theorem cU.kept {M M' : Mem} {c : Int32} (h : cU M c) (k : sK M M') : cU M' c := by unfold cU at *; rw [k 6 (by decide)]; exact h
theorem r_rdS {n : Int} {d v c s : Int32} {M N : Mem} (h : zRI n (d + v) M N) (hs : s = 0 ∨ s = 1) (hc : cU M c) :
    if f_X0_isGood c s M then zRI n (d + v) M (rdS c s N) else zRI n (d + (v + (f_X0_heal c s M).1)) (f_X0_heal c s M).2 (rdS c s N) ∧ sK M (f_X0_heal c s M).2 := by
  unfold rdS
  rw [r_good h.1 hs hc]
  by_cases g : f_X5_isGood c s N = true
  · rw [if_pos g, if_pos g]
    have e := zR_2 (x := 0) h.1
    rw [Int32.add_zero] at e
    exact ⟨e, h.2⟩
  · rw [if_neg g, if_neg g]
    obtain ⟨e1, e2, ⟨f, e3⟩, ⟨f', e4⟩⟩ := r_heal h hs hc
    have e5 : (f_X5_heal c s N).2 0 = N 0 := by rw [e4, mset_ne (by decide)]
    have e6 := zR_2 (x := (f_X5_heal c s N).1) e2.1
    rw [e5] at e6
    rw [← Int32.add_assoc, e1]
    exact ⟨⟨e6, e2.2⟩, sK.of e3⟩
theorem r_rdP {N : Mem} {c s : Int32} {j : Nat} (h0 : j ≠ 0) (h9 : j ≠ 9) : (rdS c s N) j = N j := by
  unfold rdS
  split
  · unfold mup; rw [mset_ne h0]
  · unfold mup
    rw [mset_ne h0]
    unfold f_X5_heal
    repeat' split
    all_goals first | rfl | exact mset_ne h9
theorem r_half {n : Int} {d v c x1 x3 : Int32} {M N : Mem} (h : zRI n (d + v) M N) (hc : cU M c) :
    (f_X5_isGood c 0 N = true ∧ ∃ w M', l_X4_healUpToGoodCell_23 x1 x3 c 3 v 0 M = .inl (w, M') ∧ zRI n (d + w) M' (rdS c 0 N) ∧ sK M M') ∨
    (f_X5_isGood c 0 N = false ∧ f_X5_isGood c 1 (rdS c 0 N) = true ∧ ∃ w M', l_X4_healUpToGoodCell_23 x1 x3 c 3 v 0 M = .inl (w, M') ∧ zRI n (d + w) M' (rdS c 1 (rdS c 0 N)) ∧ sK M M') ∨
    (f_X5_isGood c 0 N = false ∧ f_X5_isGood c 1 (rdS c 0 N) = false ∧ ∃ w M', l_X4_healUpToGoodCell_23 x1 x3 c 3 v 0 M = .inr (w, 2, M') ∧ zRI n (d + w) M' (rdS c 1 (rdS c 0 N)) ∧ sK M M') := by
  rw [u_hug]
  have s1 := r_rdS h (s := 0) (Or.inl rfl) hc
  rw [← r_good h.1 (s := 0) (Or.inl rfl) hc]
  by_cases b1 : f_X0_isGood c 0 M = true
  · rw [if_pos b1] at s1 ⊢
    exact Or.inl ⟨b1, v, M, rfl, s1, sK.refl M⟩
  · rw [if_neg b1] at s1 ⊢
    obtain ⟨s1, t1⟩ := s1
    have c1 := hc.kept t1
    have s2 := r_rdS s1 (s := 1) (Or.inr rfl) c1
    rw [← r_good s1.1 (s := 1) (Or.inr rfl) c1]
    by_cases b2 : f_X0_isGood c 1 (f_X0_heal c 0 M).2 = true
    · rw [if_pos b2] at s2 ⊢
      exact Or.inr (Or.inl ⟨by simpa using b1, b2, _, _, rfl, s2, t1⟩)
    · rw [if_neg b2] at s2 ⊢
      exact Or.inr (Or.inr ⟨by simpa using b1, by simpa using b2, _, _, rfl, s2.1, t1.trans s2.2⟩)
theorem u_hugs (p : Int32) (M : Mem) : f_X4_healUpToGoodCell p M = Sum.elim (fun r => r) (fun e => Sum.elim (fun r => r) (fun e => (e.1, e.2.2)) (l_X4_healUpToGoodCell_23 p 1 (f_X3_placeOf p 1 e.2.2) 3 e.1 0 e.2.2)) (l_X4_healUpToGoodCell_23 p 0 (f_X3_placeOf p 0 M) 3 0 0 M) := by
  have e2 (v : Int32) (M : Mem) (k : Nat) : l_X4_healUpToGoodCell_4 p (k + 1) v 2 M = .inr (v, 2, M) := by
    show b_X4_healUpToGoodCell_4 p (l_X4_healUpToGoodCell_4 p k) v 2 M = _
    unfold b_X4_healUpToGoodCell_4
    rw [if_pos (by decide)]
  show Sum.elim (fun r => r) (fun e => (e.1, e.2.2)) (b_X4_healUpToGoodCell_4 p (l_X4_healUpToGoodCell_4 p 2) 0 0 M) = _
  unfold b_X4_healUpToGoodCell_4
  simp only [zlet, Int32.reduceLE, if_false, Int32.reduceAdd]
  cases l_X4_healUpToGoodCell_23 p 0 (f_X3_placeOf p 0 M) 3 0 0 M with
  | inl r => rfl
  | inr e =>
    show Sum.elim (fun r => r) (fun e => (e.1, e.2.2)) (b_X4_healUpToGoodCell_4 p (l_X4_healUpToGoodCell_4 p 1) e.1 1 e.2.2) = _
    unfold b_X4_healUpToGoodCell_4
    simp only [zlet, Int32.reduceLE, if_false, Int32.reduceAdd, Sum.elim_inr]
    cases l_X4_healUpToGoodCell_23 p 1 (f_X3_placeOf p 1 e.2.2) 3 e.1 0 e.2.2 with
    | inl r => rfl
    | inr e => simp only [Sum.elim_inr]; rw [e2]; rfl
theorem r_readOn {n : Int} {d p : Int32} {M N : Mem} (h : zRI n d M N) (hp : 0 ≤ p.toInt ∧ p.toInt < 53) :
    zRI n (d + (f_X4_healUpToGoodCell p M).1) (f_X4_healUpToGoodCell p M).2 (f_X5_readOn p N) ∧ sK M (f_X4_healUpToGoodCell p M).2 := by
  have hN := y_pN hp
  have k4 := h.1.2.2.1 _ hN
  have k5 := h.1.2.2.2.1 _ hN
  have kc := h.2.1 _ hN
  have h0 : zRI n (d + 0) M N := by rw [Int32.add_zero]; exact h
  rw [u_hugs, u_pl0 hp, show f_X5_readOn p N = (l_X5_readOn_4 p 5 false 0 N).2.2 from rfl, u_rd0, ← k4]
  rcases r_half (x1 := p) (x3 := 0) h0 kc.1 with ⟨g1, w, M1, e, r1, t1⟩ | ⟨g1, g2, w, M1, e, r1, t1⟩ | ⟨g1, g2, w, M1, e, r1, t1⟩
  · rw [e, g1, u_rdT]; exact ⟨r1, t1⟩
  · rw [e, g1, u_rd1, r_rdP (by decide) (by decide), ← k4, g2, u_rdT]; exact ⟨r1, t1⟩
  · rw [e, g1, u_rd1, r_rdP (by decide) (by decide), ← k4, g2, u_rd2, r_rdP (by decide) (by decide), r_rdP (by decide) (by decide), ← k5]
    simp only [Sum.elim_inr]
    rw [u_pl1 hp, t1 12 (by decide)]
    rcases r_half (x1 := p) (x3 := 1) r1 (kc.2.kept t1) with ⟨g1, w', M2, e, r2, t2⟩ | ⟨g1, g2, w', M2, e, r2, t2⟩ | ⟨g1, g2, w', M2, e, r2, t2⟩
    · rw [e, g1, u_rdT]; exact ⟨r2, t1.trans t2⟩
    · rw [e, g1, u_rd3, r_rdP (by decide) (by decide), r_rdP (by decide) (by decide), r_rdP (by decide) (by decide), ← k5, g2, u_rdT]; exact ⟨r2, t1.trans t2⟩
    · rw [e, g1, u_rd3, r_rdP (by decide) (by decide), r_rdP (by decide) (by decide), r_rdP (by decide) (by decide), ← k5, g2, u_rd4]; exact ⟨r2, t1.trans t2⟩
end
