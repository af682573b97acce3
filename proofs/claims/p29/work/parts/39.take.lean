section
/-! ===== PURE, sync: taking a cell ===== -/
def TK (M N : Mem) : Prop := ∀ m : Nat, m < 3 → (M 16 m).toInt = cn (N 12) (40 * m) 40 ∧ (0 ≤ (M 17 m).toInt ∧ (M 17 m).toInt ≤ 40) ∧
  ∀ c : Nat, c < 40 → ((c : Int) < (M 17 m).toInt → N 12 (40 * m + c) ≠ 0) ∧ ((M 17 m).toInt ≤ c → N 12 (40 * m + c) = M 6 (40 * m + c))
/-- the best mirror so far: v, r by the class; b by the reference; m: the next to be looked at -/
def TB (N : Mem) (x m v r b : Int32) : Prop :=
  (r.toInt = 0 ∧ v = -1 ∧ ((b = -1 ∧ (m.toInt = 0 ∨ (m.toInt = 1 ∧ x.toInt = 0))) ∨ ((0 ≤ b.toInt ∧ b.toInt < 3) ∧ cn (N 12) (40 * b.toNatClampNeg) 40 = 0))) ∨
  (0 < r.toInt ∧ v = b ∧ (0 ≤ b.toInt ∧ b.toInt < 3) ∧ b ≠ x ∧ r.toInt = cn (N 12) (40 * b.toNatClampNeg) 40)
theorem r_lbest {x : Int32} {M N : Mem} (h : TK M N) : ∀ (k : Nat) (m v r b : Int32), 0 ≤ m.toInt → m.toInt ≤ 3 → (3 - m.toInt).toNat + 1 ≤ k → TB N x m v r b →
    TB N x 3 (l_X1_roomiestBeside_7 x M k v r m).1 (l_X1_roomiestBeside_7 x M k v r m).2.1 (l_X5_take_4 x N k b m).1 := by
  intro k
  induction k with
  | zero => intro m v r b _ _ hk; omega
  | succ k ih =>
    intro m v r b g0 g1 hk hB
    show TB N x 3 (b_X1_roomiestBeside_7 x M (l_X1_roomiestBeside_7 x M k) v r m).1 (b_X1_roomiestBeside_7 x M (l_X1_roomiestBeside_7 x M k) v r m).2.1 (b_X5_take_4 x N (l_X5_take_4 x N k) b m).1
    unfold b_X1_roomiestBeside_7 b_X5_take_4
    by_cases hg : 3 ≤ m
    · rw [if_pos hg, if_pos hg]
      rw [Int32.le_iff_toInt_le] at hg
      simp only [Int32.reduceToInt] at hg
      rw [show m = 3 from Int32.toInt_inj.mp (by simp only [Int32.reduceToInt]; omega)] at hB
      exact hB
    · rw [if_neg hg, if_neg hg]
      have hn := z_p1 hg
      rw [Int32.le_iff_toInt_le] at hg
      simp only [Int32.reduceToInt] at hg
      have hm : 0 ≤ m.toInt ∧ m.toInt < 3 := by omega
      have hmN : m.toNatClampNeg < 3 := by simp only [Int32.toNatClampNeg]; omega
      obtain ⟨t1, t2, t3⟩ := h _ hmN
      have cM := v_cf (M := N) hm
      have c40 := cn_le (N 12) (40 * m.toNatClampNeg) 40
      by_cases ex : m = x
      · rw [if_pos ex, if_pos ex]
        refine ih _ _ _ _ (by omega) (by omega) (by omega) ?_
        rcases hB with ⟨a1, a2, ⟨b1, b2⟩ | b1⟩ | a
        · refine Or.inl ⟨a1, a2, Or.inl ⟨b1, ?_⟩⟩
          rw [← ex] at b2 ⊢
          omega
        · exact Or.inl ⟨a1, a2, Or.inr b1⟩
        · exact Or.inr a
      · rw [if_neg ex, if_neg ex]
        by_cases eb : b = -1
        · rw [if_pos eb]
          rcases hB with ⟨a1, a2, _⟩ | ⟨_, _, a3, _⟩
          · by_cases er : M 16 m.toNatClampNeg ≤ r
            · rw [if_pos er]
              rw [Int32.le_iff_toInt_le] at er
              exact ih _ _ _ _ (by omega) (by omega) (by omega) (Or.inl ⟨a1, a2, Or.inr ⟨hm, by omega⟩⟩)
            · rw [if_neg er]
              rw [Int32.le_iff_toInt_le] at er
              exact ih _ _ _ _ (by omega) (by omega) (by omega) (Or.inr ⟨by omega, rfl, hm, ex, t1⟩)
          · exact absurd eb (y_ne1 a3.1)
        · rw [if_neg eb]
          have hb : 0 ≤ b.toInt ∧ b.toInt < 3 := by
            rcases hB with ⟨_, _, ⟨b1, _⟩ | ⟨b1, _⟩⟩ | ⟨_, _, b1, _⟩
            · exact absurd b1 eb
            · exact b1
            · exact b1
          have cB := v_cf (M := N) hb
          have hr : r.toInt = cn (N 12) (40 * b.toNatClampNeg) 40 := by
            rcases hB with ⟨a1, _, ⟨b1, _⟩ | ⟨_, b1⟩⟩ | ⟨_, _, _, _, b1⟩
            · exact absurd b1 eb
            · omega
            · exact b1
          by_cases er : M 16 m.toNatClampNeg ≤ r
          · rw [if_pos er, if_pos (show f_X5_countFree_12 m N ≤ f_X5_countFree_12 b N by rw [Int32.le_iff_toInt_le] at er ⊢; omega)]
            refine ih _ _ _ _ (by omega) (by omega) (by omega) ?_
            rcases hB with ⟨a1, a2, ⟨b1, _⟩ | b1⟩ | a
            · exact absurd b1 eb
            · exact Or.inl ⟨a1, a2, Or.inr b1⟩
            · exact Or.inr a
          · rw [if_neg er, if_neg (show ¬ f_X5_countFree_12 m N ≤ f_X5_countFree_12 b N by rw [Int32.le_iff_toInt_le] at er ⊢; omega)]
            rw [Int32.le_iff_toInt_le] at er
            refine ih _ _ _ _ (by omega) (by omega) (by omega) (Or.inr ⟨by omega, rfl, hm, ex, t1⟩)
theorem u_lfind {a : Int32} {M : Mem} (ha : 0 ≤ a.toInt ∧ a.toInt < 3) : ∀ (k : Nat) (v : Int32), 0 ≤ v.toInt → v.toInt ≤ 40 → (40 - v.toInt).toNat + 1 ≤ k →
    ∃ c : Nat, (l_X1_takeBeside_23 a M k v) = nI c ∧ v.toInt ≤ c ∧ c ≤ 40 ∧ (∀ j : Nat, v.toInt ≤ j → j < c → M 6 (40 * a.toNatClampNeg + j) ≠ 0) ∧ (c < 40 → M 6 (40 * a.toNatClampNeg + c) = 0) := by
  intro k
  induction k with
  | zero => intro v _ _ hk; omega
  | succ k ih =>
    intro v g0 g1 hk
    show ∃ c : Nat, (b_X1_takeBeside_23 a M (l_X1_takeBeside_23 a M k) v) = nI c ∧ _
    unfold b_X1_takeBeside_23
    have hN := y_N g0
    have ev : v = nI v.toNatClampNeg := Int32.toInt_inj.mp (by rw [nI_toInt (by omega)]; omega)
    by_cases hg : 40 ≤ v
    · rw [if_pos hg]
      rw [Int32.le_iff_toInt_le] at hg
      simp only [Int32.reduceToInt] at hg
      exact ⟨v.toNatClampNeg, ev, by omega, by omega, fun j h1 h2 => by omega, fun h => by omega⟩
    · rw [if_neg hg]
      have hn := z_p1 hg
      rw [Int32.le_iff_toInt_le] at hg
      simp only [Int32.reduceToInt] at hg
      have hp := y_c40 ha (b := v) (by omega)
      rw [y_pl, u_used hp, y_40 ha (by omega)]
      by_cases e : M 6 (40 * a.toNatClampNeg + v.toNatClampNeg) = 0
      · rw [show (!decide (M 6 (40 * a.toNatClampNeg + v.toNatClampNeg) = 0)) = false by simp [e], if_neg (by decide)]
        exact ⟨v.toNatClampNeg, ev, by omega, by omega, fun j h1 h2 => by omega, fun _ => e⟩
      · rw [show (!decide (M 6 (40 * a.toNatClampNeg + v.toNatClampNeg) = 0)) = true by simp [e], if_pos rfl]
        obtain ⟨c, h1, h2, h3, h4, h5⟩ := ih (v + 1) (by omega) (by omega) (by omega)
        refine ⟨c, h1, by omega, h3, fun j q1 q2 => ?_, h5⟩
        by_cases ej : j = v.toNatClampNeg
        · rw [ej]; exact e
        · exact h4 j (by omega) q2
theorem v_lfind {a : Int32} {N : Mem} (ha : 0 ≤ a.toInt ∧ a.toInt < 3) : ∀ (k : Nat) (v : Int32) (i : Nat), v.toInt = 40 * a.toInt + i → i ≤ 40 → 40 - i + 1 ≤ k →
    ((l_X5_take_56 a N k (-1) v).1 = -1 ∧ ∀ j : Nat, i ≤ j → j < 40 → N 12 (40 * a.toNatClampNeg + j) ≠ 0) ∨
    ∃ c : Nat, (l_X5_take_56 a N k (-1) v).1 = nI (40 * a.toNatClampNeg + c) ∧ i ≤ c ∧ c < 40 ∧ (∀ j : Nat, i ≤ j → j < c → N 12 (40 * a.toNatClampNeg + j) ≠ 0) ∧ N 12 (40 * a.toNatClampNeg + c) = 0 := by
  intro k
  induction k with
  | zero => intro v i _ _ hk; omega
  | succ k ih =>
    intro v i hv hi hk
    show ((b_X5_take_56 a N (l_X5_take_56 a N k) (-1) v).1 = -1 ∧ _) ∨ ∃ c : Nat, (b_X5_take_56 a N (l_X5_take_56 a N k) (-1) v).1 = nI (40 * a.toNatClampNeg + c) ∧ _
    unfold b_X5_take_56
    have e40 := z40 ha (b := 40) (by decide)
    simp only [Int32.reduceToInt] at e40
    have hN := y_N (v := v) (by omega)
    have haN := y_N ha.1
    by_cases hg : 40 * a + 40 ≤ v
    · rw [if_pos hg]
      rw [Int32.le_iff_toInt_le, e40] at hg
      exact Or.inl ⟨rfl, fun j h1 h2 => by omega⟩
    · rw [if_neg hg, if_neg (show ¬ ¬ (-1 : Int32) = -1 from fun q => q rfl)]
      have hn := z_p1 hg
      rw [Int32.le_iff_toInt_le, e40] at hg
      have ev : v.toNatClampNeg = 40 * a.toNatClampNeg + i := by omega
      rw [ev]
      by_cases e : N 12 (40 * a.toNatClampNeg + i) = 0
      · rw [if_pos e]
        have e1 : (l_X5_take_56 a N k v (v + 1)).1 = v := by
          cases k with
          | zero => rfl
          | succ k =>
            show (b_X5_take_56 a N (l_X5_take_56 a N k) v (v + 1)).1 = v
            unfold b_X5_take_56
            split
            · rfl
            · rw [if_pos (y_ne1 (by omega))]
        refine Or.inr ⟨i, ?_, Nat.le_refl i, by omega, fun j h1 h2 => by omega, e⟩
        rw [e1]
        exact Int32.toInt_inj.mp (by rw [nI_toInt (by omega)]; omega)
      · rw [if_neg e]
        rcases ih (v + 1) (i + 1) (by omega) (by omega) (by omega) with ⟨q1, q2⟩ | ⟨c, q1, q2, q3, q4, q5⟩
        · refine Or.inl ⟨q1, fun j h1 h2 => ?_⟩
          by_cases ej : j = i
          · rw [ej]; exact e
          · exact q2 j (by omega) h2
        · refine Or.inr ⟨c, q1, by omega, q3, fun j h1 h2 => ?_, q5⟩
          by_cases ej : j = i
          · rw [ej]; exact e
          · exact q4 j (by omega) h2
end
