section
/-! ===== PURE, sync: what is used at the end ===== -/
/-- the class's used cells (pointed to in the new tree) and the reference's (taken, not gone) -/
theorem r_used {n : Int} {M0 M1 N1 : Mem} {t : Nat} (hI : zI n M0) (hC : CH M0 t M1 N1) (hnew : ∀ p, p < 53 → M1 18 p ≠ -1 → nw M1 p = true)
    (c : Nat) (hc : c < 120) : (∃ p, p < 53 ∧ ((nw M1 p = true ∧ (M1 18 p = nI c ∨ M1 19 p = nI c)) ∨ (¬ nw M1 p = true ∧ (M0 11 p = nI c ∨ M0 12 p = nI c)))) ↔
      (N1 12 c ≠ 0 ∧ ¬ ∃ p, p < 53 ∧ nw M1 p = true ∧ (M0 11 p = nI c ∨ M0 12 p = nI c)) := by
  obtain ⟨_, _, _, _, a5, _, a7, _, a9, _⟩ := hC
  obtain ⟨i1, i2, i3, _⟩ := hI
  have hne := nI_neg hc
  have ecl : (nI c).toNatClampNeg = c := nI_clamp (by omega)
  have old : ∀ p, p < 53 → (M0 11 p = nI c ∨ M0 12 p = nI c) → M0 6 c = 1 := by
    intro p hp q
    rcases q with q | q
    · rcases (i1 p hp).1 with w | ⟨_, w⟩
      · rw [q] at w; exact absurd w hne
      · rw [q, ecl] at w; exact w
    · rcases (i1 p hp).2 with w | ⟨_, w⟩
      · rw [q] at w; exact absurd w hne
      · rw [q, ecl] at w; exact w
  have new0 : ∀ p, p < 53 → (M1 18 p = nI c ∨ M1 19 p = nI c) → M0 6 c = 0 := by
    intro p hp q
    rcases q with q | q
    · rcases (a7 p hp).1 with w | ⟨d, hd, w, w2⟩
      · rw [q] at w; exact absurd w hne
      · rw [q] at w; rw [nI_inj hc hd w]; exact w2
    · rcases (a7 p hp).2 with w | ⟨d, hd, w, w2⟩
      · rw [q] at w; exact absurd w hne
      · rw [q] at w; rw [nI_inj hc hd w]; exact w2
  have one : ∀ p q, p < 53 → q < 53 → (M0 11 p = nI c ∨ M0 12 p = nI c) → (M0 11 q = nI c ∨ M0 12 q = nI c) → p = q := by
    intro p q hp hq h1 h2
    obtain ⟨d1, d2, d3⟩ := i3 p q hp hq
    obtain ⟨_, _, d6⟩ := i3 q p hq hp
    rcases h1 with h1 | h1 <;> rcases h2 with h2 | h2
    · exact d1 (h1.trans h2.symm) (by rw [h1]; exact hne)
    · exact absurd (d3 (h1.trans h2.symm)) (by rw [h1]; exact hne)
    · exact absurd (d6 (h2.trans h1.symm)) (by rw [h2]; exact hne)
    · exact d2 (h1.trans h2.symm) (by rw [h1]; exact hne)
  constructor
  · rintro ⟨p, hp, ⟨w, h⟩ | ⟨w, h⟩⟩
    · refine ⟨(a5 c hc).mpr (Or.inr ⟨p, hp, h⟩), ?_⟩
      rintro ⟨q, hq, _, h2⟩
      have e1 := old q hq h2
      rw [new0 p hp h] at e1
      exact absurd e1 (by decide)
    · refine ⟨(a5 c hc).mpr (Or.inl (old p hp h)), ?_⟩
      rintro ⟨q, hq, w2, h2⟩
      rw [← one p q hp hq h h2] at w2
      exact w w2
  · rintro ⟨h1, h2⟩
    rcases (a5 c hc).mp h1 with q | ⟨p, hp, q⟩
    · rcases i2 c hc with w | ⟨_, p, hp, w⟩
      · rw [w] at q; exact absurd q (by decide)
      · refine ⟨p, hp, Or.inr ⟨fun r => h2 ⟨p, hp, r, w⟩, w⟩⟩
    · refine ⟨p, hp, Or.inl ⟨hnew p hp ?_, q⟩⟩
      rcases q with q | q
      · rw [q]; exact hne
      · exact (a9 p hp (by rw [q]; exact hne)).1
end
