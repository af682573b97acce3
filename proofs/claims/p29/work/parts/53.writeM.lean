section
/-! ===== PURE, sync: the reference's loops ===== -/
theorem v_l23 : ∀ (k : Nat) (v1 : Int32) (M : Mem), 0 ≤ v1.toInt → (120 - v1.toInt).toNat + 1 ≤ k →
    (l_X5_sync_23 k v1 M).2 = mset M 13 (fun j => if v1.toNatClampNeg ≤ j ∧ j < 120 then 0 else M 13 j) := by
  intro k
  induction k with
  | zero => intro v2 M _ h; omega
  | succ k ih =>
    intro v1 M h0 hk
    show (b_X5_sync_23 (l_X5_sync_23 k) v1 M).2 = _
    unfold b_X5_sync_23
    have hN := y_N h0
    by_cases hg : 120 ≤ v1
    · rw [if_pos hg]
      rw [Int32.le_iff_toInt_le] at hg
      simp only [Int32.reduceToInt] at hg
      have e : (fun j : Nat => if v1.toNatClampNeg ≤ j ∧ j < 120 then 0 else M 13 j) = M 13 := by
        funext j; rw [if_neg (by omega)]
      rw [e, mset_self]
    · rw [if_neg hg]
      have hn := z_p1 hg
      have hg' := hg
      rw [Int32.le_iff_toInt_le] at hg'
      simp only [Int32.reduceToInt] at hg'
      have hN' := y_N (v := v1 + 1) (by omega)
      rw [ih (v1 + 1) _ (by omega) (by omega)]
      unfold mup
      rw [mset_mset, mset_eq]
      congr 1
      funext j
      unfold upd
      by_cases e : j = v1.toNatClampNeg
      · subst e
        rw [if_neg (by omega), if_pos rfl, if_pos (by omega)]
      · rw [if_neg e]
        by_cases e2 : (v1 + 1).toNatClampNeg ≤ j ∧ j < 120
        · rw [if_pos e2, if_pos (by omega)]
        · rw [if_neg e2, if_neg (by omega)]
theorem v_l44 : ∀ (k : Nat) (v1 : Int32) (M : Mem), 0 ≤ v1.toInt → (48 - v1.toInt).toNat + 1 ≤ k →
    (∀ a, a ≠ 2 → a ≠ 3 → (l_X5_sync_44 k v1 M).2 a = M a) ∧
    (∀ j, (l_X5_sync_44 k v1 M).2 2 j = if v1.toNatClampNeg ≤ j ∧ j < 48 then (if M 3 j = -1 then M 2 j else M 3 j) else M 2 j) ∧
    (∀ j, (l_X5_sync_44 k v1 M).2 3 j = if v1.toNatClampNeg ≤ j ∧ j < 48 then -1 else M 3 j) := by
  intro k
  induction k with
  | zero => intro v2 M _ h; omega
  | succ k ih =>
    intro v1 M h0 hk
    rw [show l_X5_sync_44 (k + 1) v1 M = b_X5_sync_44 (l_X5_sync_44 k) v1 M from rfl]
    unfold b_X5_sync_44
    have hN := y_N h0
    by_cases hg : 48 ≤ v1
    · rw [if_pos hg]
      rw [Int32.le_iff_toInt_le] at hg
      simp only [Int32.reduceToInt] at hg
      refine ⟨fun _ _ _ => rfl, fun j => ?_, fun j => ?_⟩
      · rw [if_neg (by omega)]
      · rw [if_neg (by omega)]
    · rw [if_neg hg]
      have hn := z_p1 hg
      have hg' := hg
      rw [Int32.le_iff_toInt_le] at hg'
      simp only [Int32.reduceToInt] at hg'
      have hN' := y_N (v := v1 + 1) (by omega)
      obtain ⟨i1, i2, i3⟩ := ih (v1 + 1) (mup (mup M 2 v1.toNatClampNeg (f_X5_now v1 M)) 3 v1.toNatClampNeg (-1)) (by omega) (by omega)
      have e2 : (mup (mup M 2 v1.toNatClampNeg (f_X5_now v1 M)) 3 v1.toNatClampNeg (-1)) 2 = upd (M 2) v1.toNatClampNeg (f_X5_now v1 M) := by simp [mup, mset]
      have e3 : (mup (mup M 2 v1.toNatClampNeg (f_X5_now v1 M)) 3 v1.toNatClampNeg (-1)) 3 = upd (M 3) v1.toNatClampNeg (-1) := by simp [mup, mset]
      have en : f_X5_now v1 M = if M 3 v1.toNatClampNeg = -1 then M 2 v1.toNatClampNeg else M 3 v1.toNatClampNeg := by
        unfold f_X5_now
        by_cases q : M 3 v1.toNatClampNeg = -1 <;> simp [q]
      refine ⟨fun a a2 a3 => ?_, fun j => ?_, fun j => ?_⟩
      · rw [i1 a a2 a3]; unfold mup; rw [mset_ne a3, mset_ne a2]
      · rw [i2 j, e2, e3]
        by_cases e : j = v1.toNatClampNeg
        · subst e
          rw [if_neg (by omega), if_pos (by omega), pk_us, en]
        · rw [pk_un e, pk_un e]
          by_cases q : (v1 + 1).toNatClampNeg ≤ j ∧ j < 48
          · rw [if_pos q, if_pos (show v1.toNatClampNeg ≤ j ∧ j < 48 by omega)]
          · rw [if_neg q, if_neg (show ¬ (v1.toNatClampNeg ≤ j ∧ j < 48) by omega)]
      · rw [i3 j, e3]
        by_cases e : j = v1.toNatClampNeg
        · subst e
          rw [if_neg (by omega), if_pos (by omega), pk_us]
        · rw [pk_un e]
          by_cases q : (v1 + 1).toNatClampNeg ≤ j ∧ j < 48
          · rw [if_pos q, if_pos (show v1.toNatClampNeg ≤ j ∧ j < 48 by omega)]
          · rw [if_neg q, if_neg (show ¬ (v1.toNatClampNeg ≤ j ∧ j < 48) by omega)]
theorem v_mark {M0 N : Mem} {x : Int32} (hx : cV M0 x ∨ ∃ d : Nat, d < 120 ∧ x = nI d) : (∀ j, j ≠ 13 → f_X5_mark x N j = N j) ∧ ∀ c, c < 120 → f_X5_mark x N 13 c = if x = nI c then 1 else N 13 c := by
  have hx' : x = -1 ∨ ∃ d : Nat, d < 120 ∧ x = nI d := by
    rcases hx with (h | ⟨d, hd, h, _⟩) | h
    · exact Or.inl h
    · exact Or.inr ⟨d, hd, h⟩
    · exact Or.inr h
  unfold f_X5_mark
  rcases hx' with rfl | ⟨d, hd, rfl⟩
  · rw [if_pos rfl]
    refine ⟨fun _ _ => rfl, fun c hc => ?_⟩
    rw [if_neg (fun q => nI_neg hc q.symm)]
  · rw [if_neg (nI_neg hd), nI_clamp (by omega)]
    refine ⟨fun j hj => by unfold mup; rw [mset_ne hj], fun c hc => ?_⟩
    have e : (mup N 13 d 1) 13 = upd (N 13) d 1 := by simp [mup, mset]
    rw [e]
    by_cases q : d = c
    · subst q; rw [pk_us, if_pos rfl]
    · rw [pk_un (fun w => q w.symm), if_neg (fun w => q (nI_inj hd hc w))]
end
