section
/-! ===== PURE: sides, cells, pointers, read ===== -/
theorem y_sd {a b : Int32} (h : (0 ≤ a.toInt ∧ a.toInt < 3) ∧ 0 ≤ b.toInt ∧ b.toInt < 2) : (a * 2 + b).toNatClampNeg = 2 * a.toNatClampNeg + b.toNatClampNeg ∧ (2 * a + b).toNatClampNeg = 2 * a.toNatClampNeg + b.toNatClampNeg ∧ a.toNatClampNeg < 3 ∧ b.toNatClampNeg < 2 := by
  have e := y_2 (p := a) (s := b) h.2 (by omega)
  refine ⟨by rw [Int32.mul_comm]; exact e, e, ?_, ?_⟩ <;> simp only [Int32.toNatClampNeg] <;> omega
theorem u_on {a b : Int32} {M : Mem} (h : (0 ≤ a.toInt ∧ a.toInt < 3) ∧ 0 ≤ b.toInt ∧ b.toInt < 2) : f_X0_hasOnline a b M = decide (M 8 (2 * a.toNatClampNeg + b.toNatClampNeg) = 0) := by
  unfold f_X0_hasOnline
  rw [if_pos (q_isSideOfMirror.mpr h), (y_sd h).1]
  by_cases e : M 8 (2 * a.toNatClampNeg + b.toNatClampNeg) = 0 <;> simp [e]
theorem y_s01 {b : Int32} (h : 0 ≤ b.toInt ∧ b.toInt < 2) : b = 0 ∨ b = 1 := by
  rcases (by omega : b.toInt = 0 ∨ b.toInt = 1) with q | q
  · exact Or.inl (Int32.toInt_inj.mp (by simpa using q))
  · exact Or.inr (Int32.toInt_inj.mp (by simpa using q))
theorem zR_8 {d x y : Int32} {M N : Mem} {k : Nat} (h : zR d M N) : zR d (mup (mup M 8 k x) 9 k y) (mup (mup N 10 k x) 11 k y) := by
  obtain ⟨h1, h2, h3, h4, h5, h6, h7, h8, h9, h10, h11, h12, h13⟩ := h
  refine ⟨by simpa [mup, mset] using h1, by simpa [mup, mset] using h2, by simpa [mup, mset] using h3, by simpa [mup, mset] using h4, by simpa [mup, mset] using h5, by simpa [mup, mset] using h6, by simpa [mup, mset] using h7, by simpa [mup, mset] using h8, by simpa [mup, mset] using h9, ?_, ?_, by simpa [mup, mset] using h12, by simpa [mup, mset] using h13⟩
  · intro j hj
    have e1 : (mup (mup M 8 k x) 9 k y) 8 = upd (M 8) k x := by simp [mup, mset]
    have e2 : (mup (mup N 10 k x) 11 k y) 10 = upd (N 10) k x := by simp [mup, mset]
    rw [e1, e2]; unfold upd; split
    · rfl
    · exact h10 j hj
  · intro j hj
    have e1 : (mup (mup M 8 k x) 9 k y) 9 = upd (M 9) k y := by simp [mup, mset]
    have e2 : (mup (mup N 10 k x) 11 k y) 11 = upd (N 11) k y := by simp [mup, mset]
    rw [e1, e2]; unfold upd; split
    · rfl
    · exact h11 j hj
theorem zI_8 {n : Int} {x y : Int32} {M : Mem} {k : Nat} (h : zI n M) (hs : ∀ m, m < 3 → upd (M 8) k x (2 * m) = 0 ∨ upd (M 8) k x (2 * m + 1) = 0) (hy : 0 ≤ y.toInt) : zI n (mup (mup M 8 k x) 9 k y) := by
  obtain ⟨h1, h2, h3, h4, h5, h6, h7, h8, h9, h10, h11, h12⟩ := h
  refine ⟨by simpa [cU, mup, mset] using h1, by simpa [mup, mset] using h2, by simpa [mup, mset] using h3, by simpa [mup, mset] using h4, by simpa [mup, mset] using h5, by simpa [mup, mset] using h6, by simpa [mup, mset] using h7, by simpa [mup, mset] using hs, ?_, by simpa [mup, mset] using h10, by simpa [mup, mset] using h11, by simpa [mup, mset] using h12⟩
  intro j hj
  have e1 : (mup (mup M 8 k x) 9 k y) 9 = upd (M 9) k y := by simp [mup, mset]
  rw [e1]; unfold upd; split
  · exact hy
  · exact h9 j hj
theorem u_loff {a b : Int32} {M : Mem} : l_X4_offline_20 a b M 3 0 = (if f_X0_hasOnline a 0 M then if f_X0_hasOnline a 1 M then .inr 2 else .inl (.inr "java/lang/IllegalStateException", M) else .inl (.inr "java/lang/IllegalStateException", M)) := by
  simp only [l_X4_offline_20, b_X4_offline_20, Int32.reduceLE, if_false, if_true, Int32.reduceAdd]
theorem r_offline {n : Int} {a b : Int32} {M N : Mem} (h : zRI n 0 M N) : zRI n 0 (f_X4_offline a b M).2 (f_X5_offline a b N) ∧ qA cE id (f_X4_offline a b M).1 ((), f_X5_offline a b N) := by
  unfold f_X4_offline f_X5_offline
  rw [e_sd]
  by_cases hb : f_X4_isSideOfMirror a b = true
  · have hr := q_isSideOfMirror.mp hb
    obtain ⟨y1, y2, y3, y4⟩ := y_sd hr
    have hr0 : (0 ≤ a.toInt ∧ a.toInt < 3) ∧ 0 ≤ (0 : Int32).toInt ∧ (0 : Int32).toInt < 2 := ⟨hr.1, by decide⟩
    have hr1 : (0 ≤ a.toInt ∧ a.toInt < 3) ∧ 0 ≤ (1 : Int32).toInt ∧ (1 : Int32).toInt < 2 := ⟨hr.1, by decide⟩
    have i0 : (2 * a).toNatClampNeg = 2 * a.toNatClampNeg := by have := (y_sd hr0).2.1; rw [Int32.add_zero] at this; exact this
    have i1 : (2 * a + 1).toNatClampNeg = 2 * a.toNatClampNeg + 1 := (y_sd hr1).2.1
    rw [if_pos hb, if_pos hb]
    simp only [zlet]
    rw [u_loff, u_on hr0, u_on hr1, i0, i1, ← h.1.2.2.2.2.2.2.2.2.2.1 _ (show 2 * a.toNatClampNeg < 6 by omega), ← h.1.2.2.2.2.2.2.2.2.2.1 _ (show 2 * a.toNatClampNeg + 1 < 6 by omega)]
    by_cases e0 : M 8 (2 * a.toNatClampNeg) = 0
    · by_cases e1 : M 8 (2 * a.toNatClampNeg + 1) = 0
      · have g := h.2.2.2.2.2.2.2.2.2.2.1
        have g2 := Int32.toInt_lt (M 3 1)
        have eg : (M 3 1 - 1).toInt = (M 3 1).toInt - 1 := by rw [Int32.toInt_sub, Int.bmod_eq_of_le] <;> simp <;> omega
        have z0 : ((0 : Int32).toNatClampNeg) = 0 := rfl
        have z1 : ((1 : Int32).toNatClampNeg) = 1 := rfl
        simp only [e0, e1, z0, z1, Nat.add_zero, decide_true, if_true, not_true, if_false, Sum.elim_inr]
        unfold f_X0_takeOffline
        rw [if_pos hb, y1, y2]
        have eN : (mup (mup N 0 0 0) 10 (2 * a.toNatClampNeg + b.toNatClampNeg) 1) 0 1 = M 3 1 := by
          rw [h.1.2.2.2.2.2.2.2.2.2.2.2.1]; simp [mup, mset, upd]
        rw [eN]
        refine ⟨⟨zR_8 (zR_00 h.1), zI_8 h.2 ?_ (by omega)⟩, rfl, by simp [mup, mset, upd]⟩
        intro m hm
        by_cases em : m = a.toNatClampNeg
        · subst em
          rcases y_s01 hr.2 with rfl | rfl
          · right; rw [z0, pk_un (by omega)]; exact e1
          · left; rw [z1, pk_un (by omega)]; exact e0
        · rw [pk_un (by omega), pk_un (by omega)]
          exact h.2.2.2.2.2.2.2.2.1 m hm
      · have z0 : ((0 : Int32).toNatClampNeg) = 0 := rfl
        have z1 : ((1 : Int32).toNatClampNeg) = 1 := rfl
        simp only [e0, e1, z0, z1, Nat.add_zero, decide_true, decide_false, Bool.false_eq_true, if_true, not_true, if_false, Sum.elim_inl]
        exact ⟨zRI_00 h, by simp [qA, cE, m00]⟩
    · have z0 : ((0 : Int32).toNatClampNeg) = 0 := rfl
      simp only [e0, z0, Nat.add_zero, decide_false, Bool.false_eq_true, if_true, not_false_eq_true, if_false, Sum.elim_inl]
      exact ⟨zRI_00 h, by simp [qA, cE, m00]⟩
  · rw [if_neg hb, if_neg hb]
    exact ⟨zRI_00 h, by simp [qA, cE, m00]⟩
theorem u_used {p : Int32} {M : Mem} (hp : 0 ≤ p.toInt ∧ p.toInt < 120) : f_X0_isUsed p M = ! decide (M 6 p.toNatClampNeg = 0) := by
  unfold f_X0_isUsed; rw [if_pos (q_isPlaceNumber.mpr hp)]
  by_cases e : M 6 p.toNatClampNeg = 0 <;> simp [e]
theorem y_c40 {a b : Int32} (ha : 0 ≤ a.toInt ∧ a.toInt < 3) (hb : 0 ≤ b.toInt ∧ b.toInt < 40) : 0 ≤ (40 * a + b).toInt ∧ (40 * a + b).toInt < 120 := by rw [z40 ha (by omega)]; omega
theorem u_hasSp {p s : Int32} {M : Mem} (hp : 0 ≤ p.toInt ∧ p.toInt < 120) (hs : 0 ≤ s.toInt ∧ s.toInt < 2) : f_X0_hasSpoilt p s M = (! decide (M 6 p.toNatClampNeg = 0) && ! decide (M 7 (120 * s.toNatClampNeg + p.toNatClampNeg) = 0)) := by
  unfold f_X0_hasSpoilt
  rw [if_pos (q_isCellOnSide.mpr ⟨hp, hs⟩), y_ix120 hs hp]
  by_cases e : M 6 p.toNatClampNeg = 0 <;> by_cases e2 : M 7 (120 * s.toNatClampNeg + p.toNatClampNeg) = 0 <;> simp [e, e2]
theorem r_spoil {n : Int} {a s c : Int32} {M N : Mem} (h : zRI n 0 M N) : zRI n 0 (f_X4_spoil a s c M).2 (f_X5_spoil a s c N).2 ∧ qA cE id (f_X4_spoil a s c M).1 (f_X5_spoil a s c N) := by
  unfold f_X4_spoil f_X5_spoil
  rw [e_sd, e_cl]
  by_cases hb : f_X4_isSideOfMirror a s = true
  · have hr := q_isSideOfMirror.mp hb
    obtain ⟨y1, y2, y3, y4⟩ := y_sd hr
    rw [if_pos hb, if_pos hb, q_isMirror.mpr hr.1, Bool.true_and]
    by_cases hc : f_X4_isCell c = true
    · have hcr := q_isCell.mp hc
      have hp := y_c40 hr.1 hcr
      have hpN := y_cN hp
      rw [if_pos hc, if_pos hc, u_on hr, y2, ← h.1.2.2.2.2.2.2.2.2.2.1 _ (show 2 * a.toNatClampNeg + s.toNatClampNeg < 6 by omega), y_pl, u_used hp, ← h.1.2.2.2.2.2.2.2.1 _ hpN, u_hasSp hp hr.2, u_mark (y_s01 hr.2) hp, y_2 hr.2 hp]
      have e7 : (mup N 0 0 0) 9 (2 * (40 * a + c).toNatClampNeg + s.toNatClampNeg) = M 7 (120 * s.toNatClampNeg + (40 * a + c).toNatClampNeg) := by
        rw [h.1.2.2.2.2.2.2.2.2.1 _ _ hpN y4]; simp [mup, mset]
      rw [e7]
      have hm (x : Int32) : zRI n 0 (mup M 7 (120 * s.toNatClampNeg + (40 * a + c).toNatClampNeg) x) (mup (mup N 0 0 0) 9 (2 * (40 * a + c).toNatClampNeg + s.toNatClampNeg) x) := ⟨zR_7 hpN y4 (zR_00 h.1), zI_7 h.2⟩
      by_cases e1 : M 8 (2 * a.toNatClampNeg + s.toNatClampNeg) = 0
      · by_cases e2 : M 6 (40 * a + c).toNatClampNeg = 0
        · simp only [e1, e2, decide_true, if_true, not_true, if_false, Bool.not_true, Bool.false_eq_true]
          exact ⟨zRI_00 h, by simp [qA, cE, m00]⟩
        · by_cases e3 : M 7 (120 * s.toNatClampNeg + (40 * a + c).toNatClampNeg) = 0
          · simp only [e1, e2, e3, decide_true, decide_false, if_true, not_true, not_false_eq_true, if_false, Bool.not_true, Bool.not_false, Bool.and_false, Bool.false_eq_true, zlet]
            exact ⟨hm 1, by simp [qA, mup, mset, upd]⟩
          · simp only [e1, e2, e3, decide_true, decide_false, if_true, not_true, not_false_eq_true, if_false, Bool.not_true, Bool.not_false, Bool.and_true, Bool.false_eq_true, zlet]
            exact ⟨hm 1, by simp [qA, mup, mset, upd]⟩
      · simp only [e1, decide_false, Bool.false_eq_true, if_true, if_false, not_false_eq_true]
        exact ⟨zRI_00 h, by simp [qA, cE, m00]⟩
    · rw [if_neg hc, if_neg hc]
      exact ⟨zRI_00 h, by simp [qA, cE, m00]⟩
  · rw [if_neg hb, if_neg hb]
    exact ⟨zRI_00 h, by simp [qA, cE, m00]⟩
theorem r_isSpoilt {n : Int} {a s c : Int32} {M N : Mem} (h : zRI n 0 M N) : zRI n 0 M (f_X5_isSpoilt a s c N).2 ∧ qA cE id (f_X4_isSpoilt a s c M) (f_X5_isSpoilt a s c N) := by
  unfold f_X4_isSpoilt f_X5_isSpoilt
  rw [e_sd, e_cl]
  by_cases hb : f_X4_isSideOfMirror a s = true
  · have hr := q_isSideOfMirror.mp hb
    obtain ⟨y1, y2, y3, y4⟩ := y_sd hr
    rw [if_pos hb, if_pos hb, q_isMirror.mpr hr.1, Bool.true_and]
    by_cases hc : f_X4_isCell c = true
    · have hcr := q_isCell.mp hc
      have hp := y_c40 hr.1 hcr
      have hpN := y_cN hp
      rw [if_pos hc, if_pos hc, u_on hr, y2, ← h.1.2.2.2.2.2.2.2.2.2.1 _ (show 2 * a.toNatClampNeg + s.toNatClampNeg < 6 by omega), y_pl, u_hasSp hp hr.2, y_2 hr.2 hp]
      have e7 : (mup N 0 0 0) 9 (2 * (40 * a + c).toNatClampNeg + s.toNatClampNeg) = M 7 (120 * s.toNatClampNeg + (40 * a + c).toNatClampNeg) := by
        rw [h.1.2.2.2.2.2.2.2.2.1 _ _ hpN y4]; simp [mup, mset]
      have e6 : (mup N 0 0 0) 8 (40 * a + c).toNatClampNeg = M 6 (40 * a + c).toNatClampNeg := by
        rw [h.1.2.2.2.2.2.2.2.1 _ hpN]; simp [mup, mset]
      rw [e7, e6]
      by_cases e1 : M 8 (2 * a.toNatClampNeg + s.toNatClampNeg) = 0 <;> by_cases e2 : M 6 (40 * a + c).toNatClampNeg = 0 <;> by_cases e3 : M 7 (120 * s.toNatClampNeg + (40 * a + c).toNatClampNeg) = 0 <;>
        simp only [e1, e2, e3, decide_true, decide_false, if_true, not_true, not_false_eq_true, if_false, Bool.not_true, Bool.not_false, Bool.and_false, Bool.and_true, Bool.false_eq_true] <;>
        exact ⟨zRI_00 h, by simp [qA, cE, m00]⟩
    · rw [if_neg hc, if_neg hc]
      exact ⟨zRI_00 h, by simp [qA, cE, m00]⟩
  · rw [if_neg hb, if_neg hb]
    exact ⟨zRI_00 h, by simp [qA, cE, m00]⟩
theorem r_isFree {n : Int} {a c : Int32} {M N : Mem} (h : zRI n 0 M N) : zRI n 0 M (f_X5_isFree a c N).2 ∧ qA cE id (f_X4_isFree a c M) (f_X5_isFree a c N) := by
  unfold f_X4_isFree f_X5_isFree
  rw [e_cl]
  by_cases hm : f_X4_isMirror a = true
  · have hmr := q_isMirror.mp hm
    rw [if_pos hm, hm, Bool.true_and]
    by_cases hc : f_X4_isCell c = true
    · have hcr := q_isCell.mp hc
      have hp := y_c40 hmr hcr
      have hpN := y_cN hp
      rw [if_pos hc, if_pos hc, y_pl, u_used hp]
      have e6 : (mup N 0 0 0) 8 (40 * a + c).toNatClampNeg = M 6 (40 * a + c).toNatClampNeg := by
        rw [h.1.2.2.2.2.2.2.2.1 _ hpN]; simp [mup, mset]
      rw [e6]
      by_cases e2 : M 6 (40 * a + c).toNatClampNeg = 0 <;> simp only [e2, decide_true, decide_false, if_true, not_true, not_false_eq_true, if_false, Bool.not_true, Bool.not_false, Bool.false_eq_true] <;>
        exact ⟨zRI_00 h, by simp [qA, cE, m00]⟩
    · rw [if_neg hc, if_neg hc]
      exact ⟨zRI_00 h, by simp [qA, cE, m00]⟩
  · rw [if_neg hm]
    have : f_X4_isMirror a = false := by simpa using hm
    rw [this, Bool.false_and, if_neg (by decide)]
    exact ⟨zRI_00 h, by simp [qA, cE, m00]⟩
theorem r_lfree {d a : Int32} {M N : Mem} (h : zR d M N) (ha : 0 ≤ a.toInt ∧ a.toInt < 3) : ∀ (k : Nat) (v2 v3 : Int32), 0 ≤ v3.toInt → v3.toInt ≤ 40 → (l_X0_countFree_4 a M k v2 v3).1 = (l_X5_countFree_8_8 a N k v2 (40 * a + v3)).1 := by
  intro k
  induction k with
  | zero => intro v1 v2 _ _; rfl
  | succ k ih =>
    intro v2 v3 h0 h40
    show (b_X0_countFree_4 a M (l_X0_countFree_4 a M k) v2 v3).1 = (b_X5_countFree_8_8 a N (l_X5_countFree_8_8 a N k) v2 (40 * a + v3)).1
    unfold b_X0_countFree_4 b_X5_countFree_8_8
    by_cases hg : 40 ≤ v3
    · have hgr : 40 * a + 40 ≤ 40 * a + v3 := by
        have e40 := z40 ha (b := 40) (by decide)
        rw [Int32.le_iff_toInt_le] at hg
        rw [Int32.le_iff_toInt_le, e40, z40 ha (by omega)]; simp only [Int32.reduceToInt] at hg ⊢; omega
      rw [if_pos hg, if_pos hgr]
    · have hv : 0 ≤ v3.toInt ∧ v3.toInt < 40 := by rw [Int32.le_iff_toInt_le] at hg; simp only [Int32.reduceToInt] at hg; omega
      have e := z_p1 hg
      have hp := y_c40 ha hv
      have hgr : ¬ 40 * a + 40 ≤ 40 * a + v3 := by
        have e40 := z40 ha (b := 40) (by decide)
        rw [Int32.le_iff_toInt_le, e40, z40 ha (by omega)]; simp only [Int32.reduceToInt]; omega
      rw [if_neg hg, if_neg hgr, y_pl, u_used hp, h.2.2.2.2.2.2.2.1 _ (y_cN hp), Int32.add_zero, Int32.add_assoc (40 * a) v3 1]
      by_cases e : N 8 (40 * a + v3).toNatClampNeg = 0
      · simp only [e, decide_true, Bool.not_true, Bool.false_eq_true, if_false, if_true]; exact ih _ _ (by omega) (by omega)
      · simp only [e, decide_false, Bool.not_false, if_true, if_false]; exact ih _ _ (by omega) (by omega)
end
