section
/-! ===== PURE, sync: is anything buffered ===== -/
def cb (f : Nat → Int32) : Nat → Nat
  | 0 => 0
  | n + 1 => cb f n + (if f n = -1 then 0 else 1)
theorem cb_le (f : Nat → Int32) (n : Nat) : cb f n ≤ n := by
  induction n with
  | zero => exact Nat.le_refl 0
  | succ n ih => unfold cb; split <;> omega
theorem cb_0 {f : Nat → Int32} (n : Nat) : cb f n = 0 ↔ ∀ i, i < n → f i = -1 := by
  induction n with
  | zero => exact ⟨fun _ i hi => by omega, fun _ => rfl⟩
  | succ n ih =>
    unfold cb
    constructor
    · intro h i hi
      by_cases e : f n = -1
      · rw [if_pos e, Nat.add_zero] at h
        by_cases ei : i = n
        · rw [ei]; exact e
        · exact ih.mp h i (by omega)
      · rw [if_neg e] at h; omega
    · intro h
      rw [ih.mpr (fun i hi => h i (by omega)), if_pos (h n (by omega))]
theorem u_lcount {M : Mem} : ∀ (k : Nat) (v1 v2 : Int32) (i : Nat), v2.toInt = i → i ≤ 48 → v1.toInt = cb (M 15) i → 48 - i + 1 ≤ k → ((l_X2_count_4 M k v1 v2).1).toInt = cb (M 15) 48 := by
  intro k
  induction k with
  | zero => intro v1 v2 i _ _ _ h; omega
  | succ k ih =>
    intro v1 v2 i h2 hi h1 hk
    show ((b_X2_count_4 M (l_X2_count_4 M k) v1 v2).1).toInt = _
    unfold b_X2_count_4
    by_cases hg : 48 ≤ v2
    · rw [if_pos hg]
      rw [Int32.le_iff_toInt_le] at hg
      simp only [Int32.reduceToInt] at hg
      have : i = 48 := by omega
      rw [this] at h1
      exact h1
    · rw [if_neg hg]
      have hn := z_p1 hg
      rw [Int32.le_iff_toInt_le] at hg
      simp only [Int32.reduceToInt] at hg
      have hN : v2.toNatClampNeg = i := by have := y_N (v := v2) (by omega); omega
      have hl := cb_le (M 15) i
      have ec : cb (M 15) (i + 1) = cb (M 15) i + (if M 15 i = -1 then 0 else 1) := rfl
      rw [u_holds (p := v2) (by omega), hN]
      by_cases e : M 15 i = -1
      · rw [show (!decide (M 15 i = -1)) = false by simp [e], if_neg (by decide)]
        rw [if_pos e] at ec
        exact ih _ _ (i + 1) (by omega) (by omega) (by omega) (by omega)
      · rw [show (!decide (M 15 i = -1)) = true by simp [e], if_pos rfl]
        rw [if_neg e] at ec
        have e1 : (v1 + 1).toInt = v1.toInt + 1 := by have := z_addI (a := v1) (b := 1) (by simp; omega) (by simp; omega); simpa using this
        exact ih _ _ (i + 1) (by omega) (by omega) (by omega) (by omega)
theorem u_count0 {M : Mem} : f_X2_count M ≤ 0 ↔ ¬ ∃ f : Nat, f < 4 ∧ ch M f := by
  have e : (f_X2_count M).toInt = cb (M 15) 48 := u_lcount 49 0 0 0 rfl (by omega) rfl (by omega)
  rw [Int32.le_iff_toInt_le, e]
  have g : ((cb (M 15) 48 : Nat) : Int) ≤ (0 : Int32).toInt ↔ cb (M 15) 48 = 0 := by simp only [Int32.reduceToInt]; omega
  rw [g, cb_0]
  constructor
  · rintro h ⟨f, hf, b, hb, q⟩
    exact q (h (12 * f + b) (by omega))
  · intro h i hi
    by_cases q : M 15 i = -1
    · exact q
    · exact absurd ⟨i / 12, by omega, i % 12, by omega, by rw [show 12 * (i / 12) + i % 12 = i by omega]; exact q⟩ h
end
