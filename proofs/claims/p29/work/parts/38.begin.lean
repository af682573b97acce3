section
/-! ===== PURE, sync: fills, counts, the beginning ===== -/
theorem mset_mset (M : Mem) (k : Nat) (f g : Nat → Int32) : mset (mset M k f) k g = mset M k g := by
  funext a; unfold mset; split <;> rfl
theorem mset_self (M : Mem) (k : Nat) : mset M k (M k) = M := by
  funext a; unfold mset; split
  · rename_i h; rw [h]
  · rfl
theorem y_N {v : Int32} (h : 0 ≤ v.toInt) : (v.toNatClampNeg : Int) = v.toInt := by simp only [Int32.toNatClampNeg]; omega
theorem u_lf15 (x1 x3 : Int32) : ∀ (k : Nat) (v2 : Int32) (M : Mem), 0 ≤ v2.toInt → (x3.toInt - v2.toInt).toNat + 1 ≤ k →
    (l_J7_fill_53178_15_5 x1 x3 k v2 M).2 = mset M 15 (fun j => if v2.toNatClampNeg ≤ j ∧ (j : Int) < x3.toInt then x1 else M 15 j) := by
  intro k
  induction k with
  | zero => intro v2 M _ h; omega
  | succ k ih =>
    intro v2 M h0 hk
    show (b_J7_fill_53178_15_5 x1 x3 (l_J7_fill_53178_15_5 x1 x3 k) v2 M).2 = _
    unfold b_J7_fill_53178_15_5
    have hN := y_N h0
    by_cases hg : x3 ≤ v2
    · rw [if_pos hg]
      rw [Int32.le_iff_toInt_le] at hg
      have e : (fun j : Nat => if v2.toNatClampNeg ≤ j ∧ (j : Int) < x3.toInt then x1 else M 15 j) = M 15 := by
        funext j; rw [if_neg (by omega)]
      rw [e, mset_self]
    · rw [if_neg hg]
      have hn := z_p1 hg
      have hg' := hg
      rw [Int32.le_iff_toInt_le] at hg'
      have hN' := y_N (v := v2 + 1) (by omega)
      rw [ih (v2 + 1) _ (by omega) (by omega)]
      unfold mup
      rw [mset_mset, mset_eq]
      congr 1
      funext j
      unfold upd
      by_cases e : j = v2.toNatClampNeg
      · subst e
        rw [if_neg (by omega), if_pos rfl, if_pos (by omega)]
      · rw [if_neg e]
        by_cases e2 : (v2 + 1).toNatClampNeg ≤ j ∧ (j : Int) < x3.toInt
        · rw [if_pos e2, if_pos (by omega)]
        · rw [if_neg e2, if_neg (by omega)]
theorem u_lf18 (x1 x3 : Int32) : ∀ (k : Nat) (v2 : Int32) (M : Mem), 0 ≤ v2.toInt → (x3.toInt - v2.toInt).toNat + 1 ≤ k →
    (l_J7_fill_53178_18_5 x1 x3 k v2 M).2 = mset M 18 (fun j => if v2.toNatClampNeg ≤ j ∧ (j : Int) < x3.toInt then x1 else M 18 j) := by
  intro k
  induction k with
  | zero => intro v2 M _ h; omega
  | succ k ih =>
    intro v2 M h0 hk
    show (b_J7_fill_53178_18_5 x1 x3 (l_J7_fill_53178_18_5 x1 x3 k) v2 M).2 = _
    unfold b_J7_fill_53178_18_5
    have hN := y_N h0
    by_cases hg : x3 ≤ v2
    · rw [if_pos hg]
      rw [Int32.le_iff_toInt_le] at hg
      have e : (fun j : Nat => if v2.toNatClampNeg ≤ j ∧ (j : Int) < x3.toInt then x1 else M 18 j) = M 18 := by
        funext j; rw [if_neg (by omega)]
      rw [e, mset_self]
    · rw [if_neg hg]
      have hn := z_p1 hg
      have hg' := hg
      rw [Int32.le_iff_toInt_le] at hg'
      have hN' := y_N (v := v2 + 1) (by omega)
      rw [ih (v2 + 1) _ (by omega) (by omega)]
      unfold mup
      rw [mset_mset, mset_eq]
      congr 1
      funext j
      unfold upd
      by_cases e : j = v2.toNatClampNeg
      · subst e
        rw [if_neg (by omega), if_pos rfl, if_pos (by omega)]
      · rw [if_neg e]
        by_cases e2 : (v2 + 1).toNatClampNeg ≤ j ∧ (j : Int) < x3.toInt
        · rw [if_pos e2, if_pos (by omega)]
        · rw [if_neg e2, if_neg (by omega)]
theorem u_lf19 (x1 x3 : Int32) : ∀ (k : Nat) (v2 : Int32) (M : Mem), 0 ≤ v2.toInt → (x3.toInt - v2.toInt).toNat + 1 ≤ k →
    (l_J7_fill_53178_19_5 x1 x3 k v2 M).2 = mset M 19 (fun j => if v2.toNatClampNeg ≤ j ∧ (j : Int) < x3.toInt then x1 else M 19 j) := by
  intro k
  induction k with
  | zero => intro v2 M _ h; omega
  | succ k ih =>
    intro v2 M h0 hk
    show (b_J7_fill_53178_19_5 x1 x3 (l_J7_fill_53178_19_5 x1 x3 k) v2 M).2 = _
    unfold b_J7_fill_53178_19_5
    have hN := y_N h0
    by_cases hg : x3 ≤ v2
    · rw [if_pos hg]
      rw [Int32.le_iff_toInt_le] at hg
      have e : (fun j : Nat => if v2.toNatClampNeg ≤ j ∧ (j : Int) < x3.toInt then x1 else M 19 j) = M 19 := by
        funext j; rw [if_neg (by omega)]
      rw [e, mset_self]
    · rw [if_neg hg]
      have hn := z_p1 hg
      have hg' := hg
      rw [Int32.le_iff_toInt_le] at hg'
      have hN' := y_N (v := v2 + 1) (by omega)
      rw [ih (v2 + 1) _ (by omega) (by omega)]
      unfold mup
      rw [mset_mset, mset_eq]
      congr 1
      funext j
      unfold upd
      by_cases e : j = v2.toNatClampNeg
      · subst e
        rw [if_neg (by omega), if_pos rfl, if_pos (by omega)]
      · rw [if_neg e]
        by_cases e2 : (v2 + 1).toNatClampNeg ≤ j ∧ (j : Int) < x3.toInt
        · rw [if_pos e2, if_pos (by omega)]
        · rw [if_neg e2, if_neg (by omega)]
theorem u_lf17 (x1 x3 : Int32) : ∀ (k : Nat) (v2 : Int32) (M : Mem), 0 ≤ v2.toInt → (x3.toInt - v2.toInt).toNat + 1 ≤ k →
    (l_J7_fill_53178_17_5 x1 x3 k v2 M).2 = mset M 17 (fun j => if v2.toNatClampNeg ≤ j ∧ (j : Int) < x3.toInt then x1 else M 17 j) := by
  intro k
  induction k with
  | zero => intro v2 M _ h; omega
  | succ k ih =>
    intro v2 M h0 hk
    show (b_J7_fill_53178_17_5 x1 x3 (l_J7_fill_53178_17_5 x1 x3 k) v2 M).2 = _
    unfold b_J7_fill_53178_17_5
    have hN := y_N h0
    by_cases hg : x3 ≤ v2
    · rw [if_pos hg]
      rw [Int32.le_iff_toInt_le] at hg
      have e : (fun j : Nat => if v2.toNatClampNeg ≤ j ∧ (j : Int) < x3.toInt then x1 else M 17 j) = M 17 := by
        funext j; rw [if_neg (by omega)]
      rw [e, mset_self]
    · rw [if_neg hg]
      have hn := z_p1 hg
      have hg' := hg
      rw [Int32.le_iff_toInt_le] at hg'
      have hN' := y_N (v := v2 + 1) (by omega)
      rw [ih (v2 + 1) _ (by omega) (by omega)]
      unfold mup
      rw [mset_mset, mset_eq]
      congr 1
      funext j
      unfold upd
      by_cases e : j = v2.toNatClampNeg
      · subst e
        rw [if_neg (by omega), if_pos rfl, if_pos (by omega)]
      · rw [if_neg e]
        by_cases e2 : (v2 + 1).toNatClampNeg ≤ j ∧ (j : Int) < x3.toInt
        · rw [if_pos e2, if_pos (by omega)]
        · rw [if_neg e2, if_neg (by omega)]
/-- how many of n places from a on are 0 -/
def cn (f : Nat → Int32) (a : Nat) : Nat → Nat
  | 0 => 0
  | n + 1 => cn f a n + (if f (a + n) = 0 then 1 else 0)
theorem cn_le (f : Nat → Int32) (a n : Nat) : cn f a n ≤ n := by
  induction n with
  | zero => exact Nat.le_refl 0
  | succ n ih => unfold cn; split <;> omega
theorem cn_un {f : Nat → Int32} {a c : Nat} {x : Int32} (n : Nat) (h : c < a ∨ a + n ≤ c) : cn (upd f c x) a n = cn f a n := by
  induction n with
  | zero => rfl
  | succ n ih =>
    unfold cn
    rw [ih (by omega), pk_un (by omega)]
theorem cn_us {f : Nat → Int32} {a c : Nat} (n : Nat) (h : a ≤ c ∧ c < a + n) (h0 : f c = 0) : cn (upd f c 1) a n + 1 = cn f a n := by
  induction n with
  | zero => omega
  | succ n ih =>
    unfold cn
    by_cases e : c = a + n
    · subst e
      rw [cn_un n (Or.inr (Nat.le_refl _)), pk_us, if_neg (by decide), if_pos h0]
    · rw [pk_un (fun q => e q.symm)]
      have := ih (by omega)
      omega
theorem cn_pos {f : Nat → Int32} {a : Nat} (n : Nat) : cn f a n ≠ 0 ↔ ∃ i, i < n ∧ f (a + i) = 0 := by
  induction n with
  | zero => simp [cn]
  | succ n ih =>
    unfold cn
    constructor
    · intro h
      by_cases e : f (a + n) = 0
      · exact ⟨n, by omega, e⟩
      · rw [if_neg e, Nat.add_zero] at h
        obtain ⟨i, hi, h2⟩ := ih.mp h
        exact ⟨i, by omega, h2⟩
    · rintro ⟨i, hi, h2⟩
      by_cases e : i = n
      · rw [← e, if_pos h2]; omega
      · have := ih.mpr ⟨i, by omega, h2⟩
        omega
theorem u_lcf {a : Int32} {M : Mem} (ha : 0 ≤ a.toInt ∧ a.toInt < 3) : ∀ (k : Nat) (v2 v3 : Int32) (i : Nat), v3.toInt = i → i ≤ 40 → v2.toInt = cn (M 6) (40 * a.toNatClampNeg) i → 40 - i + 1 ≤ k →
    ((l_X0_countFree_4 a M k v2 v3).1).toInt = cn (M 6) (40 * a.toNatClampNeg) 40 := by
  intro k
  induction k with
  | zero => intro v2 v3 i _ _ _ h; omega
  | succ k ih =>
    intro v2 v3 i h3 hi h2 hk
    show ((b_X0_countFree_4 a M (l_X0_countFree_4 a M k) v2 v3).1).toInt = _
    unfold b_X0_countFree_4
    by_cases hg : 40 ≤ v3
    · rw [if_pos hg]
      rw [Int32.le_iff_toInt_le] at hg
      simp only [Int32.reduceToInt] at hg
      have : i = 40 := by omega
      rw [this] at h2
      exact h2
    · rw [if_neg hg]
      have hn := z_p1 hg
      rw [Int32.le_iff_toInt_le] at hg
      simp only [Int32.reduceToInt] at hg
      have hp := y_c40 ha (b := v3) (by omega)
      have ei : (40 * a + v3).toNatClampNeg = 40 * a.toNatClampNeg + i := by
        rw [y_40 ha (by omega)]
        have := y_N (v := v3) (by omega)
        omega
      have hl := cn_le (M 6) (40 * a.toNatClampNeg) i
      have ec : cn (M 6) (40 * a.toNatClampNeg) (i + 1) = cn (M 6) (40 * a.toNatClampNeg) i + (if M 6 (40 * a.toNatClampNeg + i) = 0 then 1 else 0) := rfl
      rw [y_pl, u_used hp, ei]
      by_cases e : M 6 (40 * a.toNatClampNeg + i) = 0
      · rw [show (!decide (M 6 (40 * a.toNatClampNeg + i) = 0)) = false by simp [e], if_neg (by decide)]
        rw [if_pos e] at ec
        have e1 : (v2 + 1).toInt = v2.toInt + 1 := by have := z_addI (a := v2) (b := 1) (by simp; omega) (by simp; omega); simpa using this
        exact ih _ _ (i + 1) (by omega) (by omega) (by rw [e1, ec]; omega) (by omega)
      · rw [show (!decide (M 6 (40 * a.toNatClampNeg + i) = 0)) = true by simp [e], if_pos rfl]
        rw [if_neg e] at ec
        exact ih _ _ (i + 1) (by omega) (by omega) (by rw [ec]; omega) (by omega)
theorem u_cf {a : Int32} {M : Mem} (ha : 0 ≤ a.toInt ∧ a.toInt < 3) : (f_X0_countFree a M).toInt = cn (M 6) (40 * a.toNatClampNeg) 40 :=
  u_lcf ha 41 0 0 0 rfl (by omega) rfl (by omega)
theorem v_lcf {a : Int32} {M : Mem} (ha : 0 ≤ a.toInt ∧ a.toInt < 3) : ∀ (k : Nat) (v2 v4 : Int32) (i : Nat), v4.toInt = 40 * a.toInt + i → i ≤ 40 → v2.toInt = cn (M 12) (40 * a.toNatClampNeg) i → 40 - i + 1 ≤ k →
    ((l_X5_countFree_12_8 a M k v2 v4).1).toInt = cn (M 12) (40 * a.toNatClampNeg) 40 := by
  intro k
  induction k with
  | zero => intro v2 v3 i _ _ _ h; omega
  | succ k ih =>
    intro v2 v4 i h3 hi h2 hk
    show ((b_X5_countFree_12_8 a M (l_X5_countFree_12_8 a M k) v2 v4).1).toInt = _
    unfold b_X5_countFree_12_8
    have e40 := z40 ha (b := 40) (by decide)
    simp only [Int32.reduceToInt] at e40
    by_cases hg : 40 * a + 40 ≤ v4
    · rw [if_pos hg]
      rw [Int32.le_iff_toInt_le, e40] at hg
      have : i = 40 := by omega
      rw [this] at h2
      exact h2
    · rw [if_neg hg]
      have hn := z_p1 hg
      rw [Int32.le_iff_toInt_le, e40] at hg
      have ei : v4.toNatClampNeg = 40 * a.toNatClampNeg + i := by
        have := y_N (v := v4) (by omega)
        have := y_N (v := a) ha.1
        omega
      have hl := cn_le (M 12) (40 * a.toNatClampNeg) i
      have ec : cn (M 12) (40 * a.toNatClampNeg) (i + 1) = cn (M 12) (40 * a.toNatClampNeg) i + (if M 12 (40 * a.toNatClampNeg + i) = 0 then 1 else 0) := rfl
      rw [ei]
      by_cases e : M 12 (40 * a.toNatClampNeg + i) = 0
      · rw [if_pos e]
        rw [if_pos e] at ec
        have e1 : (v2 + 1).toInt = v2.toInt + 1 := by have := z_addI (a := v2) (b := 1) (by simp; omega) (by simp; omega); simpa using this
        exact ih _ _ (i + 1) (by omega) (by omega) (by rw [e1, ec]; omega) (by omega)
      · rw [if_neg e, Int32.add_zero]
        rw [if_neg e] at ec
        exact ih _ _ (i + 1) (by omega) (by omega) (by rw [ec]; omega) (by omega)
theorem v_cf {a : Int32} {M : Mem} (ha : 0 ≤ a.toInt ∧ a.toInt < 3) : (f_X5_countFree_12 a M).toInt = cn (M 12) (40 * a.toNatClampNeg) 40 := by
  have e40 := z40 ha (b := 40) (by decide)
  simp only [Int32.reduceToInt] at e40
  have ef : ((40 * a + 40 : Int32).toInt - (40 * a : Int32).toInt).toNat + 1 = 41 := by rw [e40, z40' ha]; omega
  unfold f_X5_countFree_12
  simp only [zlet]
  rw [ef]
  exact v_lcf ha 41 0 (40 * a) 0 (by rw [z40' ha]; omega) (by omega) rfl (by omega)
theorem v_l7 : ∀ (k : Nat) (v1 : Int32) (M : Mem), 0 ≤ v1.toInt → (120 - v1.toInt).toNat + 1 ≤ k →
    (l_X5_tries_7 k v1 M).2 = mset M 12 (fun j => if v1.toNatClampNeg ≤ j ∧ j < 120 then vp_nar .boolean (M 8 j) else M 12 j) := by
  intro k
  induction k with
  | zero => intro v2 M _ h; omega
  | succ k ih =>
    intro v1 M h0 hk
    show (b_X5_tries_7 (l_X5_tries_7 k) v1 M).2 = _
    unfold b_X5_tries_7
    have hN := y_N h0
    by_cases hg : 120 ≤ v1
    · rw [if_pos hg]
      rw [Int32.le_iff_toInt_le] at hg
      simp only [Int32.reduceToInt] at hg
      have e : (fun j : Nat => if v1.toNatClampNeg ≤ j ∧ j < 120 then vp_nar .boolean (M 8 j) else M 12 j) = M 12 := by
        funext j; rw [if_neg (by omega)]
      rw [e, mset_self]
    · rw [if_neg hg]
      have hn := z_p1 hg
      have hg' := hg
      rw [Int32.le_iff_toInt_le] at hg'
      simp only [Int32.reduceToInt] at hg'
      have hN' := y_N (v := v1 + 1) (by omega)
      rw [ih (v1 + 1) _ (by omega) (by omega)]
      unfold mup
      rw [mset_mset, mset_eq, mset_ne (by decide)]
      congr 1
      funext j
      unfold upd
      by_cases e : j = v1.toNatClampNeg
      · subst e
        rw [if_neg (by omega), if_pos rfl, if_pos (by omega)]
      · rw [if_neg e]
        by_cases e2 : (v1 + 1).toNatClampNeg ≤ j ∧ j < 120
        · rw [if_pos e2, if_pos (by omega)]
        · rw [if_neg e2, if_neg (by omega)]
theorem v_l33 : ∀ (k : Nat) (v1 : Int32) (M : Mem), 0 ≤ v1.toInt → (53 - v1.toInt).toNat + 1 ≤ k → ∀ (a j : Nat),
    (l_X5_tries_33 k v1 M).2 a j = if (a = 14 ∨ a = 15 ∨ a = 16) ∧ v1.toNatClampNeg ≤ j ∧ j < 53 then (if a = 16 then 0 else -1) else M a j := by
  intro k
  induction k with
  | zero => intro v2 M _ h; omega
  | succ k ih =>
    intro v1 M h0 hk a j
    show (b_X5_tries_33 (l_X5_tries_33 k) v1 M).2 a j = _
    unfold b_X5_tries_33
    have hN := y_N h0
    by_cases hg : 53 ≤ v1
    · rw [if_pos hg]
      rw [Int32.le_iff_toInt_le] at hg
      simp only [Int32.reduceToInt] at hg
      rw [if_neg (by omega)]
    · rw [if_neg hg]
      have hn := z_p1 hg
      rw [Int32.le_iff_toInt_le] at hg
      simp only [Int32.reduceToInt] at hg
      have hN' := y_N (v := v1 + 1) (by omega)
      rw [ih (v1 + 1) _ (by omega) (by omega)]
      by_cases e2 : (a = 14 ∨ a = 15 ∨ a = 16) ∧ (v1 + 1).toNatClampNeg ≤ j ∧ j < 53
      · rw [if_pos e2, if_pos (show (a = 14 ∨ a = 15 ∨ a = 16) ∧ v1.toNatClampNeg ≤ j ∧ j < 53 from ⟨e2.1, by omega, e2.2.2⟩)]
      · rw [if_neg e2]
        by_cases e3 : (a = 14 ∨ a = 15 ∨ a = 16) ∧ v1.toNatClampNeg ≤ j ∧ j < 53
        · have ej : j = v1.toNatClampNeg := by omega
          rw [if_pos e3]
          rcases e3.1 with rfl | rfl | rfl <;> simp [mup, mset, upd, ej]
        · rw [if_neg e3]
          unfold mup mset upd
          by_cases ej : j = v1.toNatClampNeg
          · have ea : a ≠ 14 ∧ a ≠ 15 ∧ a ≠ 16 := by omega
            simp [ea]
          · by_cases e15 : a = 15
            · subst e15; simp [ej]
            · by_cases e14 : a = 14
              · subst e14; simp [ej]
              · by_cases e16 : a = 16
                · subst e16; simp [ej]
                · simp [e15, e14, e16]
end
