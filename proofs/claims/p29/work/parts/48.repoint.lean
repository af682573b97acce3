section
theorem u_fillV {M0 M : Mem} {x : Int32} (hx : cV M0 x) : (∀ j, j ≠ 7 → f_X0_fill x M j = M j) ∧ ∀ s c, s < 2 → c < 120 → f_X0_fill x M 7 (120 * s + c) = if x = nI c ∧ M 8 (2 * (c / 40) + s) = 0 then 0 else M 7 (120 * s + c) := by
  rcases hx with rfl | ⟨d, hd, rfl, _⟩
  · rw [u_fill0]
    refine ⟨fun _ _ => rfl, fun s c _ hc => ?_⟩
    rw [if_neg (fun q => nI_neg hc q.1.symm)]
  · obtain ⟨f1, f2⟩ := u_fill hd M
    refine ⟨f1, fun s c hs hc => ?_⟩
    rw [f2 s c hs hc]
    by_cases e : c = d
    · subst e
      by_cases q : M 8 (2 * (c / 40) + s) = 0
      · rw [if_pos ⟨rfl, q⟩, if_pos ⟨rfl, q⟩]
      · rw [if_neg (fun w => q w.2), if_neg (fun w => q w.2)]
    · rw [if_neg (fun w => e w.1), if_neg (fun w => e (nI_inj hd hc w.1).symm)]
/-- a step of writing: the tree at p, and the cells a and b -/
theorem SW_step {M1 M M' : Mem} {Q P : Nat → Prop} {C : Nat → Int32} {p : Nat} (h : SW M1 Q P C M) (hp : p < 53)
    (g0 : ∀ j, j ≠ 7 → j ≠ 11 → j ≠ 12 → j ≠ 13 → j ≠ 14 → M' j = M j)
    (g11 : M' 11 = upd (M 11) p (M1 18 p)) (g12 : M' 12 = upd (M 12) p (M1 19 p)) (g14 : M' 14 = upd (M 14) p (if M1 18 p = -1 then 0 else M1 3 1)) (g13 : M' 13 = upd (M 13) p (if M1 18 p = -1 then 0 else C p))
    (g7 : ∀ s c, s < 2 → c < 120 → M' 7 (120 * s + c) = if (M1 18 p = nI c ∨ M1 19 p = nI c) ∧ M1 8 (2 * (c / 40) + s) = 0 then 0 else M 7 (120 * s + c)) :
    SW M1 Q (fun q => P q ∨ q = p) C M' := by
  obtain ⟨h1, h2, h3, h4⟩ := h
  refine ⟨?_, ?_, ?_, ?_⟩
  · intro j j7 j10 j11 j12 j13 j14
    rw [g0 j j7 j11 j12 j13 j14]; exact h1 j j7 j10 j11 j12 j13 j14
  · intro k hk
    rw [g0 10 (by decide) (by decide) (by decide) (by decide) (by decide)]
    exact h2 k hk
  · intro q hq
    rw [g11, g12, g13, g14]
    by_cases e : q = p
    · subst e
      rw [pk_us, pk_us, pk_us, pk_us]
      exact ⟨fun _ => ⟨rfl, rfl, rfl, rfl⟩, fun w => absurd (Or.inr rfl) w⟩
    · rw [pk_un e, pk_un e, pk_un e, pk_un e]
      exact ⟨fun w => (h3 q hq).1 (w.resolve_right e), fun w => (h3 q hq).2 (fun r => w (Or.inl r))⟩
  · intro s c hs hc
    rw [g7 s c hs hc]
    obtain ⟨k1, k2⟩ := h4 s c hs hc
    by_cases on : M1 8 (2 * (c / 40) + s) = 0
    · by_cases e : M1 18 p = nI c ∨ M1 19 p = nI c
      · rw [if_pos ⟨e, on⟩]
        exact ⟨fun _ _ => rfl, fun w => w.elim (fun r => absurd ⟨p, hp, Or.inr rfl, e⟩ r) (fun r => absurd on r)⟩
      · rw [if_neg (fun w => e w.1)]
        have eq : (∃ q, q < 53 ∧ (P q ∨ q = p) ∧ (M1 18 q = nI c ∨ M1 19 q = nI c)) ↔ ∃ q, q < 53 ∧ P q ∧ (M1 18 q = nI c ∨ M1 19 q = nI c) := by
          constructor
          · rintro ⟨q, q1, q2, q3⟩
            rcases q2 with q2 | q2
            · exact ⟨q, q1, q2, q3⟩
            · rw [q2] at q3; exact absurd q3 e
          · rintro ⟨q, q1, q2, q3⟩; exact ⟨q, q1, Or.inl q2, q3⟩
        rw [eq]
        exact ⟨k1, k2⟩
    · rw [if_neg (fun w => on w.2)]
      exact ⟨fun _ w => absurd w on, fun _ => k2 (Or.inr on)⟩
theorem SW_repoint {M1 M : Mem} {Q P : Nat → Prop} {C : Nat → Int32} {p cs : Int32} (h : SW M1 Q P C M) (hp : 0 ≤ p.toInt ∧ p.toInt < 53) (hC : M1 18 p.toNatClampNeg ≠ -1 → C p.toNatClampNeg = cs)
    (hv : cV M1 (M1 18 p.toNatClampNeg) ∧ cV M1 (M1 19 p.toNatClampNeg)) (h2 : M1 19 p.toNatClampNeg ≠ -1 → M1 18 p.toNatClampNeg ≠ -1) :
    (f_X4_repoint p cs M).1 = cw M1 p.toNatClampNeg ∧ SW M1 Q (fun q => P q ∨ q = p.toNatClampNeg) C (f_X4_repoint p cs M).2 := by
  have hN := y_pN hp
  have hP := q_isPointer.mpr hp
  have e18 : M 18 = M1 18 := h.1 18 (by decide) (by decide) (by decide) (by decide) (by decide) (by decide)
  have e19 : M 19 = M1 19 := h.1 19 (by decide) (by decide) (by decide) (by decide) (by decide) (by decide)
  have e8 : M 8 = M1 8 := h.1 8 (by decide) (by decide) (by decide) (by decide) (by decide) (by decide)
  have e3 : M 3 = M1 3 := h.1 3 (by decide) (by decide) (by decide) (by decide) (by decide) (by decide)
  have f1 : f_X1_firstFor p M = M1 18 p.toNatClampNeg := by unfold f_X1_firstFor; rw [if_pos hP, e18]
  have f2 : f_X1_secondFor p M = M1 19 p.toNatClampNeg := by unfold f_X1_secondFor; rw [if_pos hP, e19]
  unfold f_X4_repoint
  rw [f1, f2]
  by_cases ha : M1 18 p.toNatClampNeg = -1
  · have hb : M1 19 p.toNatClampNeg = -1 := by
      by_cases q : M1 19 p.toNatClampNeg = -1
      · exact q
      · exact absurd ha (h2 q)
    rw [if_neg (fun q => q ha)]
    simp only [zlet]
    unfold f_X3_drop f_X3_point f_X3_sign
    simp only [zlet]
    rw [if_pos hP, if_pos hP]
    refine ⟨by unfold cw; rw [if_pos ha], SW_step h hN ?_ ?_ ?_ ?_ ?_ ?_⟩
    · intro j j7 j11 j12 j13 j14; simp [mup, mset, j11, j12, j13, j14]
    · rw [ha]; simp [mup, mset]
    · rw [hb]; simp [mup, mset]
    · rw [if_pos ha]; simp [mup, mset]
    · rw [if_pos ha]; simp [mup, mset]
    · intro s c hs hc
      rw [ha, hb, if_neg (fun w => w.1.elim (fun r => nI_neg hc r.symm) (fun r => nI_neg hc r.symm))]
      simp [mup, mset]
  · rw [if_pos ha]
    simp only [zlet]
    unfold f_X3_point f_X3_sign
    rw [if_pos hP, if_pos hP]
    have e31 : (mup (mup M 11 p.toNatClampNeg (M1 18 p.toNatClampNeg)) 12 p.toNatClampNeg (M1 19 p.toNatClampNeg)) 3 1 = M1 3 1 := by rw [← e3]; simp [mup, mset]
    rw [e31]
    have n0 : ∀ j, j ≠ 11 → j ≠ 12 → j ≠ 13 → j ≠ 14 → (mup (mup (mup (mup M 11 p.toNatClampNeg (M1 18 p.toNatClampNeg)) 12 p.toNatClampNeg (M1 19 p.toNatClampNeg)) 13 p.toNatClampNeg cs) 14 p.toNatClampNeg (M1 3 1)) j = M j := by
      intro j j11 j12 j13 j14; simp [mup, mset, j11, j12, j13, j14]
    have n11 : (mup (mup (mup (mup M 11 p.toNatClampNeg (M1 18 p.toNatClampNeg)) 12 p.toNatClampNeg (M1 19 p.toNatClampNeg)) 13 p.toNatClampNeg cs) 14 p.toNatClampNeg (M1 3 1)) 11 = upd (M 11) p.toNatClampNeg (M1 18 p.toNatClampNeg) := by simp [mup, mset]
    have n12 : (mup (mup (mup (mup M 11 p.toNatClampNeg (M1 18 p.toNatClampNeg)) 12 p.toNatClampNeg (M1 19 p.toNatClampNeg)) 13 p.toNatClampNeg cs) 14 p.toNatClampNeg (M1 3 1)) 12 = upd (M 12) p.toNatClampNeg (M1 19 p.toNatClampNeg) := by simp [mup, mset]
    have n13 : (mup (mup (mup (mup M 11 p.toNatClampNeg (M1 18 p.toNatClampNeg)) 12 p.toNatClampNeg (M1 19 p.toNatClampNeg)) 13 p.toNatClampNeg cs) 14 p.toNatClampNeg (M1 3 1)) 13 = upd (M 13) p.toNatClampNeg cs := by simp [mup, mset]
    have n14 : (mup (mup (mup (mup M 11 p.toNatClampNeg (M1 18 p.toNatClampNeg)) 12 p.toNatClampNeg (M1 19 p.toNatClampNeg)) 13 p.toNatClampNeg cs) 14 p.toNatClampNeg (M1 3 1)) 14 = upd (M 14) p.toNatClampNeg (M1 3 1) := by simp [mup, mset]
    revert n0 n11 n12 n13 n14
    generalize (mup (mup (mup (mup M 11 p.toNatClampNeg (M1 18 p.toNatClampNeg)) 12 p.toNatClampNeg (M1 19 p.toNatClampNeg)) 13 p.toNatClampNeg cs) 14 p.toNatClampNeg (M1 3 1)) = N2
    intro n0 n11 n12 n13 n14
    obtain ⟨a1, a2⟩ := u_fillV (M := N2) hv.1
    obtain ⟨b1, b2⟩ := u_fillV (M := f_X0_fill (M1 18 p.toNatClampNeg) N2) hv.2
    have hS : SW M1 Q (fun q => P q ∨ q = p.toNatClampNeg) C (f_X0_fill (M1 19 p.toNatClampNeg) (f_X0_fill (M1 18 p.toNatClampNeg) N2)) := by
      refine SW_step h hN ?_ ?_ ?_ ?_ ?_ ?_
      · intro j j7 j11 j12 j13 j14; rw [b1 j j7, a1 j j7, n0 j j11 j12 j13 j14]
      · rw [b1 11 (by decide), a1 11 (by decide), n11]
      · rw [b1 12 (by decide), a1 12 (by decide), n12]
      · rw [b1 14 (by decide), a1 14 (by decide), n14, if_neg ha]
      · rw [b1 13 (by decide), a1 13 (by decide), n13, if_neg ha, hC ha]
      · intro s c hs hc
        rw [b2 s c hs hc, a2 s c hs hc, a1 8 (by decide), n0 8 (by decide) (by decide) (by decide) (by decide), n0 7 (by decide) (by decide) (by decide) (by decide), e8]
        by_cases on : M1 8 (2 * (c / 40) + s) = 0 <;> by_cases q1 : M1 18 p.toNatClampNeg = nI c <;> by_cases q2 : M1 19 p.toNatClampNeg = nI c <;> simp [on, q1, q2]
    by_cases hb : M1 19 p.toNatClampNeg = -1
    · rw [if_neg (fun q => q hb)]
      exact ⟨by unfold cw; rw [if_neg ha, if_pos hb], hS⟩
    · rw [if_pos hb]
      exact ⟨by unfold cw; rw [if_neg ha, if_neg hb], hS⟩
end
