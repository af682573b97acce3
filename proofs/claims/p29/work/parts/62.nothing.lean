section
theorem v_l76no : ∀ (k : Nat) (v : Int32) (N : Mem), 0 ≤ v.toInt → (∀ p, p < 53 → N 16 p = 0) → (l_X5_sync_76 k v N).2 = N := by
  intro k
  induction k with
  | zero => intro v N _ _; rfl
  | succ k ih =>
    intro v N h0 h
    show (b_X5_sync_76 (l_X5_sync_76 k) v N).2 = N
    by_cases hg : 53 ≤ v
    · unfold b_X5_sync_76
      rw [if_pos hg]
    · have hn := z_p1 hg
      have hN : v.toNatClampNeg < 53 := by
        rw [Int32.le_iff_toInt_le] at hg
        simp only [Int32.reduceToInt] at hg
        have := y_N h0
        omega
      unfold b_X5_sync_76
      rw [if_neg hg, if_pos (h _ hN)]
      exact ih (v + 1) N (by omega) h
end
