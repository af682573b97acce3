section
/-! ===== PURE, sync: both have written the same ===== -/
theorem tau_lt {p : Nat} (hp : p < 53) : tau p < 53 := by
  unfold tau
  split
  · omega
  · split <;> omega
theorem dt53 {M : Mem} {p : Nat} (hp : p < 53) : dt M 53 p = nw M p := by
  unfold dt; rw [decide_eq_true (tau_lt hp), Bool.and_true]
theorem r_cmp {M1 Nb M N : Mem} {v : Int32} (hW : WS M1 53 v M) (hN : SN M1 Nb (fun q => nw M1 q = true ∧ q < 53) N) :
    (∀ k, k < 53 → M 11 k = N 4 k ∧ M 12 k = N 5 k ∧ M 13 k = N 7 k ∧ M 14 k = N 6 k) ∧ ∀ k s, k < 120 → s < 2 → M 7 (120 * s + k) = N 9 (2 * k + s) := by
  constructor
  · intro k hk
    obtain ⟨a1, a2⟩ := hW.1.2.2.1 k hk
    obtain ⟨b1, b2⟩ := hN.2.1 k hk
    simp only [dt53 hk] at a1 a2
    by_cases w : nw M1 k = true
    · obtain ⟨p1, p2, p3, p4⟩ := a1 w
      obtain ⟨q1, q2, q3, q4⟩ := b1 ⟨w, hk⟩
      exact ⟨p1.trans q1.symm, p2.trans q2.symm, p4.trans q4.symm, p3.trans q3.symm⟩
    · obtain ⟨p1, p2, p3, p4⟩ := a2 w
      obtain ⟨q1, q2, q3, q4⟩ := b2 (fun r => w r.1)
      exact ⟨p1.trans q1.symm, p2.trans q2.symm, p4.trans q4.symm, p3.trans q3.symm⟩
  · intro c s hc hs
    obtain ⟨a1, a2⟩ := hW.1.2.2.2 s c hs hc
    obtain ⟨b1, b2⟩ := hN.2.2.1 s c hs hc
    have ex : (∃ p, p < 53 ∧ dt M1 53 p = true ∧ (M1 18 p = nI c ∨ M1 19 p = nI c)) ↔ ∃ p, p < 53 ∧ (nw M1 p = true ∧ p < 53) ∧ (M1 18 p = nI c ∨ M1 19 p = nI c) := by
      constructor
      · rintro ⟨p, p1, p2, p3⟩; exact ⟨p, p1, ⟨by rw [← dt53 p1]; exact p2, p1⟩, p3⟩
      · rintro ⟨p, p1, p2, p3⟩; exact ⟨p, p1, by rw [dt53 p1]; exact p2.1, p3⟩
    rw [ex] at a1 a2
    by_cases w : ∃ p, p < 53 ∧ (nw M1 p = true ∧ p < 53) ∧ (M1 18 p = nI c ∨ M1 19 p = nI c)
    · by_cases on : M1 8 (2 * (c / 40) + s) = 0
      · rw [a1 w on, b1 w on]
      · rw [a2 (Or.inr on), b2 (Or.inr on)]
    · rw [a2 (Or.inl w), b2 (Or.inl w)]
end
