section
def cP (x : Int32) : Prop := x = -1 ∨ ∃ d : Nat, d < 120 ∧ x = nI d
/-- what the reference's writing needs of its memory beforehand -/
def NB (M1 Nb : Mem) : Prop := (∀ p, p < 53 → Nb 14 p = M1 18 p ∧ Nb 15 p = M1 19 p) ∧ (∀ k, k < 6 → Nb 10 k = M1 8 k) ∧ Nb 0 1 = M1 3 1 ∧
  ∀ p, p < 53 → (cP (M1 18 p) ∧ cP (M1 19 p)) ∧ cP (M1 11 p) ∧ cP (M1 12 p)
theorem v_thereE {v : Int32} {N : Mem} {p : Nat} (hv : v.toNatClampNeg = p) : f_X5_isThere v N = ! decide (N 4 p = -1) := by
  unfold f_X5_isThere
  rw [hv]
  by_cases e : N 4 p = -1 <;> simp [e]
theorem SN_at {M1 Nb N : Mem} {P : Nat → Prop} {v : Int32} {p : Nat} {rec : Int32 → Mem → Int32 × Mem} (hB : NB M1 Nb) (h : SN M1 Nb P N) (hv : v.toNatClampNeg = p) (hp : p < 53) (hg : ¬ 53 ≤ v) (hnew : ¬ N 16 p = 0) (hP : ¬ P p)
    (hsum : ∀ X : Mem, X 2 = Nb 2 → X 7 = N 7 → (∀ q, q ≠ p → X 6 q = N 6 q) → M1 18 p ≠ -1 → f_X5_sumOf v X = cC M1 p) :
    ∃ N', b_X5_sync_76 rec v N = rec (v + 1) N' ∧ SN M1 Nb (fun q => P q ∨ q = p) N' := by
  obtain ⟨o4, o5, o6, o7⟩ := (h.2.1 p hp).2 hP
  have e14 : N 14 p = M1 18 p := by rw [h.1 14 (by decide) (by decide) (by decide) (by decide) (by decide) (by decide)]; exact (hB.1 p hp).1
  have e15 : N 15 p = M1 19 p := by rw [h.1 15 (by decide) (by decide) (by decide) (by decide) (by decide) (by decide)]; exact (hB.1 p hp).2
  have e01 : N 0 1 = M1 3 1 := by rw [h.1 0 (by decide) (by decide) (by decide) (by decide) (by decide) (by decide)]; exact hB.2.2.1
  have e2 : N 2 = Nb 2 := h.1 2 (by decide) (by decide) (by decide) (by decide) (by decide) (by decide)
  have e10 : ∀ s c, s < 2 → c < 120 → N 10 (2 * (c / 40) + s) = M1 8 (2 * (c / 40) + s) := by
    intro s c hs hc
    rw [h.1 10 (by decide) (by decide) (by decide) (by decide) (by decide) (by decide)]; exact hB.2.1 _ (by omega)
  obtain ⟨⟨c18, c19⟩, c11, c12⟩ := hB.2.2.2 p hp
  unfold b_X5_sync_76
  rw [if_neg hg, hv, if_neg hnew]
  simp only [zlet]
  rw [o4]
  obtain ⟨a1, a2⟩ := v_mark (M0 := M1) (N := N) (x := M1 11 p) (c11.elim (fun q => Or.inl (Or.inl q)) Or.inr)
  rw [a1 5 (by decide), o5]
  obtain ⟨b1, b2⟩ := v_mark (M0 := M1) (N := f_X5_mark (M1 11 p) N) (x := M1 12 p) (c12.elim (fun q => Or.inl (Or.inl q)) Or.inr)
  have m13 : ∀ c, c < 120 → f_X5_mark (M1 12 p) (f_X5_mark (M1 11 p) N) 13 c = if M1 11 p = nI c ∨ M1 12 p = nI c then 1 else N 13 c := by
    intro c hc
    rw [b2 c hc, a2 c hc]
    by_cases q1 : M1 11 p = nI c <;> by_cases q2 : M1 12 p = nI c <;> simp [q1, q2]
  have m0 : ∀ j, j ≠ 13 → f_X5_mark (M1 12 p) (f_X5_mark (M1 11 p) N) j = N j := fun j hj => by rw [b1 j hj, a1 j hj]
  revert m13 m0
  generalize f_X5_mark (M1 12 p) (f_X5_mark (M1 11 p) N) = N5
  intro m13 m0
  rw [m0 14 (by decide), e14]
  have e15' : (mup N5 4 p (M1 18 p)) 15 p = M1 19 p := by rw [← e15, ← m0 15 (by decide)]; simp [mup, mset]
  rw [e15']
  have n0 : ∀ j, j ≠ 4 → j ≠ 5 → (mup (mup N5 4 p (M1 18 p)) 5 p (M1 19 p)) j = N5 j := by intro j j4 j5; unfold mup; rw [mset_ne j5, mset_ne j4]
  have n4 : (mup (mup N5 4 p (M1 18 p)) 5 p (M1 19 p)) 4 = upd (N 4) p (M1 18 p) := by rw [← m0 4 (by decide)]; simp [mup, mset]
  have n5 : (mup (mup N5 4 p (M1 18 p)) 5 p (M1 19 p)) 5 = upd (N 5) p (M1 19 p) := by rw [← m0 5 (by decide)]; simp [mup, mset]
  revert n0 n4 n5
  generalize mup (mup N5 4 p (M1 18 p)) 5 p (M1 19 p) = Na
  intro n0 n4 n5
  rw [n4, pk_us]
  obtain ⟨f1, f2⟩ := v_clean (N := Na) c18
  rw [f1 5 (by decide), n5, pk_us]
  obtain ⟨k1, k2⟩ := v_clean (N := f_X5_clean (M1 18 p) Na) c19
  have q0 : ∀ j, j ≠ 4 → j ≠ 5 → j ≠ 9 → j ≠ 13 → f_X5_clean (M1 19 p) (f_X5_clean (M1 18 p) Na) j = N j := by
    intro j j4 j5 j9 j13; rw [k1 j j9, f1 j j9, n0 j j4 j5, m0 j j13]
  have q4 : f_X5_clean (M1 19 p) (f_X5_clean (M1 18 p) Na) 4 = upd (N 4) p (M1 18 p) := by rw [k1 4 (by decide), f1 4 (by decide), n4]
  have q5 : f_X5_clean (M1 19 p) (f_X5_clean (M1 18 p) Na) 5 = upd (N 5) p (M1 19 p) := by rw [k1 5 (by decide), f1 5 (by decide), n5]
  have q13 : f_X5_clean (M1 19 p) (f_X5_clean (M1 18 p) Na) 13 = N5 13 := by rw [k1 13 (by decide), f1 13 (by decide), n0 13 (by decide) (by decide)]
  have q9 : ∀ s c, s < 2 → c < 120 → f_X5_clean (M1 19 p) (f_X5_clean (M1 18 p) Na) 9 (2 * c + s) = if (M1 18 p = nI c ∨ M1 19 p = nI c) ∧ M1 8 (2 * (c / 40) + s) = 0 then 0 else N 9 (2 * c + s) := by
    intro s c hs hc
    rw [k2 s c hs hc, f2 s c hs hc, f1 10 (by decide), n0 10 (by decide) (by decide), n0 9 (by decide) (by decide), m0 10 (by decide), m0 9 (by decide), e10 s c hs hc]
    by_cases on : M1 8 (2 * (c / 40) + s) = 0 <;> by_cases w1 : M1 18 p = nI c <;> by_cases w2 : M1 19 p = nI c <;> simp [on, w1, w2]
  revert q0 q4 q5 q13 q9
  generalize f_X5_clean (M1 19 p) (f_X5_clean (M1 18 p) Na) = N7
  intro q0 q4 q5 q13 q9
  have ef : ∀ y z : Int32, y = (if M1 18 p = -1 then 0 else M1 3 1) → z = (if M1 18 p = -1 then 0 else cC M1 p) → SN M1 Nb (fun q => P q ∨ q = p) (mup (mup N7 6 p y) 7 p z) := by
    intro y z hy hz
    refine SN_step h hp ?_ ?_ ?_ ?_ ?_ ?_ ?_
    · intro j j4 j5 j6 j7 j9 j13; unfold mup; rw [mset_ne j7, mset_ne j6, q0 j j4 j5 j9 j13]
    · rw [← q4]; simp [mup, mset]
    · rw [← q5]; simp [mup, mset]
    · rw [← q0 6 (by decide) (by decide) (by decide) (by decide), ← hy]; simp [mup, mset]
    · rw [← q0 7 (by decide) (by decide) (by decide) (by decide), ← hz]; simp [mup, mset]
    · intro s c hs hc; rw [← q9 s c hs hc]; simp [mup, mset]
    · intro c hc; rw [← m13 c hc, ← q13]; simp [mup, mset]
  have t7 : N7 4 p = M1 18 p := by rw [q4, pk_us]
  have t8 : ∀ y, (mup N7 6 p y) 4 p = M1 18 p := by intro y; rw [← t7]; simp [mup, mset]
  rw [v_thereE hv, v_thereE hv, v_thereE hv, t7, t8, t8]
  by_cases e : M1 18 p = -1
  · simp only [e, decide_true, Bool.not_true, Bool.false_eq_true, if_false]
    exact ⟨_, rfl, ef 0 0 (by rw [if_pos e]) (by rw [if_pos e])⟩
  · simp only [e, decide_false, Bool.not_false, if_true]
    have g01 : N7 0 1 = M1 3 1 := by rw [q0 0 (by decide) (by decide) (by decide) (by decide), e01]
    refine ⟨_, rfl, ef _ _ (by rw [g01, if_neg e]) ?_⟩
    rw [if_neg e]
    refine hsum _ ?_ ?_ ?_ e
    · rw [← e2, ← q0 2 (by decide) (by decide) (by decide) (by decide)]; simp [mup, mset]
    · rw [← q0 7 (by decide) (by decide) (by decide) (by decide)]; simp [mup, mset]
    · intro q hq; rw [← q0 6 (by decide) (by decide) (by decide) (by decide)]; simp [mup, mset, upd, hq]
end
