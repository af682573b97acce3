section
/-! ===== PURE, sync: writing; a spec that both sides meet ===== -/
/-- M1: after the choice; Q: blocks whose values are kept, P: pointers that are written, C: checksums -/
def SW (M1 : Mem) (Q P : Nat → Prop) (C : Nat → Int32) (M : Mem) : Prop :=
  (∀ j, j ≠ 7 → j ≠ 10 → j ≠ 11 → j ≠ 12 → j ≠ 13 → j ≠ 14 → M j = M1 j) ∧
  (∀ k, k < 48 → (Q k → M 10 k = M1 15 k) ∧ (¬ Q k → M 10 k = M1 10 k)) ∧
  (∀ p, p < 53 → (P p → M 11 p = M1 18 p ∧ M 12 p = M1 19 p ∧ M 14 p = (if M1 18 p = -1 then 0 else M1 3 1) ∧ M 13 p = (if M1 18 p = -1 then 0 else C p)) ∧
    (¬ P p → M 11 p = M1 11 p ∧ M 12 p = M1 12 p ∧ M 14 p = M1 14 p ∧ M 13 p = M1 13 p)) ∧
  (∀ s c, s < 2 → c < 120 → ((∃ p, p < 53 ∧ P p ∧ (M1 18 p = nI c ∨ M1 19 p = nI c)) → M1 8 (2 * (c / 40) + s) = 0 → M 7 (120 * s + c) = 0) ∧
    (¬ (∃ p, p < 53 ∧ P p ∧ (M1 18 p = nI c ∨ M1 19 p = nI c)) ∨ M1 8 (2 * (c / 40) + s) ≠ 0 → M 7 (120 * s + c) = M1 7 (120 * s + c)))
theorem u_fl (c v : Int32) (k : Nat) (M : Mem) (hv : ¬ 2 ≤ v) : l_X0_fill_2 c (k + 1) v M = l_X0_fill_2 c k (v + 1) (if f_X4_isPlaceNumber c = true then (if f_X0_hasOnline (f_X4_mirrorOf c) v M = true then f_X0_mark c v false M else M) else M) := by
  show b_X0_fill_2 c (l_X0_fill_2 c k) v M = _
  unfold b_X0_fill_2
  rw [if_neg hv]
  simp only [zlet]
  by_cases h1 : f_X4_isPlaceNumber c = true
  · rw [if_pos h1, if_pos h1]
    by_cases h2 : f_X0_hasOnline (f_X4_mirrorOf c) v M = true
    · rw [if_pos h2, if_pos h2]
    · rw [if_neg h2, if_neg h2]
  · rw [if_neg h1, if_neg h1]
theorem u_fl2 (c : Int32) (k : Nat) (M : Mem) : l_X0_fill_2 c (k + 1) 2 M = (2, M) := by
  show b_X0_fill_2 c (l_X0_fill_2 c k) 2 M = _
  unfold b_X0_fill_2
  rw [if_pos (by decide)]
theorem u_fill0 (M : Mem) : f_X0_fill (-1) M = M := by
  have e : ¬ f_X4_isPlaceNumber (-1) = true := by rw [q_isPlaceNumber]; decide
  unfold f_X0_fill
  simp only [zlet]
  rw [u_fl _ 0 2 M (by decide), y_01, u_fl _ 1 1 _ (by decide), y_12', u_fl2, if_neg e, if_neg e]
theorem u_fill {d : Nat} (hd : d < 120) (M : Mem) : (∀ j, j ≠ 7 → f_X0_fill (nI d) M j = M j) ∧ ∀ s c, s < 2 → c < 120 → f_X0_fill (nI d) M 7 (120 * s + c) = if c = d ∧ M 8 (2 * (d / 40) + s) = 0 then 0 else M 7 (120 * s + c) := by
  have hc : 0 ≤ (nI d).toInt ∧ (nI d).toInt < 120 := by rw [nI_toInt (by omega)]; omega
  have e : f_X4_isPlaceNumber (nI d) = true := q_isPlaceNumber.mpr hc
  have ed : (nI d).toNatClampNeg = d := nI_clamp (by omega)
  have z0 : ((0 : Int32).toNatClampNeg) = 0 := rfl
  have z1 : ((1 : Int32).toNatClampNeg) = 1 := rfl
  unfold f_X0_fill
  simp only [zlet]
  rw [u_fl _ 0 2 M (by decide), y_01, u_fl _ 1 1 _ (by decide), y_12', u_fl2, if_pos e, if_pos e]
  simp only [u_hasOnline (s := 0) (Or.inl rfl) hc, u_hasOnline (s := 1) (Or.inr rfl) hc, u_mark (s := 0) (Or.inl rfl) hc, u_mark (s := 1) (Or.inr rfl) hc, ed, z0, z1, Nat.add_zero]
  have b0 : bI false = 0 := rfl
  rw [b0]
  have h8 : (if decide (M 8 (2 * (d / 40)) = 0) = true then mup M 7 (120 * 0 + d) 0 else M) 8 = M 8 := by split <;> simp [mup, mset]
  rw [h8]
  constructor
  · intro j hj
    by_cases q0 : M 8 (2 * (d / 40)) = 0 <;> by_cases q1 : M 8 (2 * (d / 40) + 1) = 0 <;> simp [q0, q1, mup, mset, hj]
  · intro s c hs hc'
    rcases (by omega : s = 0 ∨ s = 1) with rfl | rfl
    · by_cases ec : c = d
      · subst ec
        by_cases q0 : M 8 (2 * (c / 40)) = 0 <;> by_cases q1 : M 8 (2 * (c / 40) + 1) = 0 <;> simp [q0, q1, mup, mset, upd]
        all_goals (intro w; omega)
      · have n1 : ¬ c = 120 + d := by omega
        by_cases q0 : M 8 (2 * (d / 40)) = 0 <;> by_cases q1 : M 8 (2 * (d / 40) + 1) = 0 <;> simp [q0, q1, mup, mset, upd, ec, n1]
    · by_cases ec : c = d
      · subst ec
        by_cases q0 : M 8 (2 * (c / 40)) = 0 <;> by_cases q1 : M 8 (2 * (c / 40) + 1) = 0 <;> simp [q0, q1, mup, mset, upd]
        all_goals (intro w; omega)
      · have n1 : ¬ 120 + c = d := by omega
        by_cases q0 : M 8 (2 * (d / 40)) = 0 <;> by_cases q1 : M 8 (2 * (d / 40) + 1) = 0 <;> simp [q0, q1, mup, mset, upd, ec, n1]
end
