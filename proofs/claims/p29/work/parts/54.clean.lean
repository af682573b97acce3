section
theorem v_cl (x v : Int32) (k : Nat) (N : Mem) (hv : ¬ 2 ≤ v) (hx : x ≠ -1) : l_X5_clean_2 x (k + 1) v N = l_X5_clean_2 x k (v + 1) (if N 10 ((2 * (x / 40)) + v).toNatClampNeg = 0 then mup N 9 ((2 * x) + v).toNatClampNeg 0 else N) := by
  show b_X5_clean_2 x (l_X5_clean_2 x k) v N = _
  unfold b_X5_clean_2
  rw [if_neg hv, if_neg hx]
  by_cases q : N 10 ((2 * (x / 40)) + v).toNatClampNeg = 0
  · rw [if_neg (fun w => w q), if_pos q]
  · rw [if_pos q, if_neg q]
theorem v_cl2 (x : Int32) (k : Nat) (N : Mem) : l_X5_clean_2 x (k + 1) 2 N = (2, N) := by
  show b_X5_clean_2 x (l_X5_clean_2 x k) 2 N = _
  unfold b_X5_clean_2
  rw [if_pos (by decide)]
theorem v_clean {x : Int32} {N : Mem} (hx : x = -1 ∨ ∃ d : Nat, d < 120 ∧ x = nI d) : (∀ j, j ≠ 9 → f_X5_clean x N j = N j) ∧ ∀ s c, s < 2 → c < 120 → f_X5_clean x N 9 (2 * c + s) = if x = nI c ∧ N 10 (2 * (c / 40) + s) = 0 then 0 else N 9 (2 * c + s) := by
  have eF : f_X5_clean x N = (l_X5_clean_2 x 3 0 N).2 := rfl
  rw [eF]
  rcases hx with rfl | ⟨d, hd, rfl⟩
  · have e : l_X5_clean_2 (-1) 3 0 N = (0, N) := by
      show b_X5_clean_2 (-1) (l_X5_clean_2 (-1) 2) 0 N = _
      unfold b_X5_clean_2
      rw [if_neg (by decide), if_pos rfl]
    rw [e]
    refine ⟨fun _ _ => rfl, fun s c _ hc => ?_⟩
    rw [if_neg (fun q => nI_neg hc q.1.symm)]
  · have hc : 0 ≤ (nI d).toInt ∧ (nI d).toInt < 120 := by rw [nI_toInt (by omega)]; omega
    have ed : (nI d).toNatClampNeg = d := nI_clamp (by omega)
    have z0 : ((0 : Int32).toNatClampNeg) = 0 := rfl
    have z1 : ((1 : Int32).toNatClampNeg) = 1 := rfl
    have m0 := (y_m2 (c := nI d) (s := 0) (Or.inl rfl) hc).2.1
    have m1 := (y_m2 (c := nI d) (s := 1) (Or.inr rfl) hc).2.1
    have p0 := y_2 (p := nI d) (s := 0) (by decide) hc
    have p1 := y_2 (p := nI d) (s := 1) (by decide) hc
    rw [ed, z0] at m0 p0
    rw [ed, z1] at m1 p1
    rw [v_cl _ 0 2 N (by decide) (nI_neg hd), y_01, v_cl _ 1 1 _ (by decide) (nI_neg hd), y_12', v_cl2, m0, m1, p0, p1, Nat.add_zero, Nat.add_zero]
    have h10 : (if N 10 (2 * (d / 40)) = 0 then mup N 9 (2 * d) 0 else N) 10 = N 10 := by split <;> simp [mup, mset]
    rw [h10]
    constructor
    · intro j hj
      by_cases q0 : N 10 (2 * (d / 40)) = 0 <;> by_cases q1 : N 10 (2 * (d / 40) + 1) = 0 <;> simp [q0, q1, mup, mset, hj]
    · intro s c hs hc'
      rcases (by omega : s = 0 ∨ s = 1) with rfl | rfl
      · by_cases ec : d = c
        · subst ec
          have n1 : ¬ 2 * d = 2 * d + 1 := by omega
          by_cases q0 : N 10 (2 * (d / 40)) = 0 <;> by_cases q1 : N 10 (2 * (d / 40) + 1) = 0 <;> simp [q0, q1, mup, mset, upd, n1]
        · have n0 : ¬ nI d = nI c := fun w => ec (nI_inj hd hc' w)
          have n1 : ¬ 2 * c = 2 * d + 1 := by omega
          have n2 : ¬ c = d := fun w => ec w.symm
          have n3 : ¬ 2 * c = 2 * d := by omega
          by_cases q0 : N 10 (2 * (d / 40)) = 0 <;> by_cases q1 : N 10 (2 * (d / 40) + 1) = 0 <;> simp [q0, q1, mup, mset, upd, n0, n1, n2, n3]
      · by_cases ec : d = c
        · subst ec
          have n1 : ¬ 2 * d + 1 = 2 * d := by omega
          by_cases q0 : N 10 (2 * (d / 40)) = 0 <;> by_cases q1 : N 10 (2 * (d / 40) + 1) = 0 <;> simp [q0, q1, mup, mset, upd, n1]
        · have n0 : ¬ nI d = nI c := fun w => ec (nI_inj hd hc' w)
          have n1 : ¬ 2 * c + 1 = 2 * d := by omega
          have n2 : ¬ c = d := fun w => ec w.symm
          have n3 : ¬ 2 * c = 2 * d := by omega
          by_cases q0 : N 10 (2 * (d / 40)) = 0 <;> by_cases q1 : N 10 (2 * (d / 40) + 1) = 0 <;> simp [q0, q1, mup, mset, upd, n0, n1, n2, n3]
theorem v_l208 : ∀ (k : Nat) (v1 : Int32) (M : Mem), 0 ≤ v1.toInt → (120 - v1.toInt).toNat + 1 ≤ k →
    (l_X5_sync_208 k v1 M).2 = mset M 8 (fun j => if v1.toNatClampNeg ≤ j ∧ j < 120 then (if M 12 j = 0 then 0 else if ¬ M 13 j = 0 then 0 else 1) else M 8 j) := by
  intro k
  induction k with
  | zero => intro v2 M _ h; omega
  | succ k ih =>
    intro v1 M h0 hk
    show (b_X5_sync_208 (l_X5_sync_208 k) v1 M).2 = _
    have eB : b_X5_sync_208 (l_X5_sync_208 k) v1 M = if 120 ≤ v1 then (v1, M) else l_X5_sync_208 k (v1 + 1) (mup M 8 v1.toNatClampNeg (if M 12 v1.toNatClampNeg = 0 then 0 else if ¬ M 13 v1.toNatClampNeg = 0 then 0 else 1)) := by
      unfold b_X5_sync_208
      by_cases q1 : M 12 v1.toNatClampNeg = 0 <;> by_cases q2 : M 13 v1.toNatClampNeg = 0 <;> simp [q1, q2]
    rw [eB]
    have hN := y_N h0
    by_cases hg : 120 ≤ v1
    · rw [if_pos hg]
      rw [Int32.le_iff_toInt_le] at hg
      simp only [Int32.reduceToInt] at hg
      have e : (fun j : Nat => if v1.toNatClampNeg ≤ j ∧ j < 120 then (if M 12 j = 0 then 0 else if ¬ M 13 j = 0 then 0 else 1) else M 8 j) = M 8 := by
        funext j; rw [if_neg (by omega)]
      rw [e, mset_self]
    · rw [if_neg hg]
      have hn := z_p1 hg
      have hg' := hg
      rw [Int32.le_iff_toInt_le] at hg'
      simp only [Int32.reduceToInt] at hg'
      have hN' := y_N (v := v1 + 1) (by omega)
      rw [ih (v1 + 1) _ (by omega) (by omega)]
      unfold mup
      rw [mset_mset, mset_eq, mset_ne (by decide), mset_ne (by decide)]
      congr 1
      funext j
      unfold upd
      by_cases e : j = v1.toNatClampNeg
      · subst e
        rw [if_neg (show ¬ ((v1 + 1).toNatClampNeg ≤ v1.toNatClampNeg ∧ v1.toNatClampNeg < 120) by omega), if_pos rfl, if_pos (show v1.toNatClampNeg ≤ v1.toNatClampNeg ∧ v1.toNatClampNeg < 120 by omega)]
      · rw [if_neg e]
        by_cases e2 : (v1 + 1).toNatClampNeg ≤ j ∧ j < 120
        · rw [if_pos e2, if_pos (show v1.toNatClampNeg ≤ j ∧ j < 120 by omega)]
        · rw [if_neg e2, if_neg (show ¬ (v1.toNatClampNeg ≤ j ∧ j < 120) by omega)]
end
