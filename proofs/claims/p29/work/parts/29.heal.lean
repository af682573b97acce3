/-! ===== PURE: the relation of the two memories; healing ===== -/
section
/-- M: the class's, N: the reference's; d: what is healed and not yet counted by the class -/
def zR (d : Int32) (M N : Mem) : Prop :=
  (∀ k, k < 48 → M 15 k = N 3 k) ∧ (∀ k, k < 48 → M 10 k = N 2 k) ∧ (∀ k, k < 53 → M 11 k = N 4 k) ∧ (∀ k, k < 53 → M 12 k = N 5 k) ∧ (∀ k, k < 53 → M 13 k = N 7 k) ∧ (∀ k, k < 53 → M 14 k = N 6 k) ∧
  (∀ k, k < 4 → M 5 k = N 1 k) ∧ (∀ k, k < 120 → M 6 k = N 8 k) ∧ (∀ k s, k < 120 → s < 2 → M 7 (120 * s + k) = N 9 (2 * k + s)) ∧ (∀ k, k < 6 → M 8 k = N 10 k) ∧ (∀ k, k < 6 → M 9 k = N 11 k) ∧ M 3 1 = N 0 1 ∧ M 0 5 + d = N 0 2
/-- no place, or one that is used -/
def cU (M : Mem) (c : Int32) : Prop := c = -1 ∨ ((0 ≤ c.toInt ∧ c.toInt < 120) ∧ M 6 c.toNatClampNeg = 1)
def zI (n : Int) (M : Mem) : Prop :=
  (∀ k, k < 53 → cU M (M 11 k) ∧ cU M (M 12 k)) ∧
  (∀ c, c < 120 → M 6 c = 0 ∨ (M 6 c = 1 ∧ ∃ k, k < 53 ∧ (M 11 k = nI c ∨ M 12 k = nI c))) ∧
  (∀ k l, k < 53 → l < 53 → (M 11 k = M 11 l → M 11 k ≠ -1 → k = l) ∧ (M 12 k = M 12 l → M 12 k ≠ -1 → k = l) ∧ (M 11 k = M 12 l → M 11 k = -1)) ∧
  (∀ k, k < 53 → M 12 k ≠ -1 → M 11 k ≠ -1 ∧ M 11 k / 40 ≠ M 12 k / 40) ∧
  (∀ f b, f < 4 → b < 12 → M 11 (12 * f + b) ≠ -1 → M 11 (48 + f) ≠ -1) ∧ (∀ f, f < 4 → M 11 (48 + f) ≠ -1 → M 11 52 ≠ -1) ∧
  ((∀ k, k < 53 → M 11 k = -1 → M 14 k = 0) ∧ (∀ k, k < 48 → M 11 k ≠ -1 → M 10 k ≠ 0) ∧ (∀ f, f < 4 → M 11 (48 + f) ≠ -1 → ∃ b, b < 12 ∧ M 10 (12 * f + b) ≠ 0)) ∧
  (∀ m, m < 3 → M 8 (2 * m) = 0 ∨ M 8 (2 * m + 1) = 0) ∧ (∀ k, k < 6 → 0 ≤ (M 9 k).toInt) ∧ (1 ≤ (M 3 1).toInt ∧ (M 3 1).toInt ≤ n) ∧
  (∀ k, k < 48 → -1 ≤ (M 15 k).toInt) ∧ (∀ k, k < 4 → M 5 k = 1 ∨ M 5 k = 2)
/-- related, and the class's memory is a good one -/
def zRI (n : Int) (d : Int32) (M N : Mem) : Prop := zR d M N ∧ zI n M
theorem zI_7 {n : Int} {M : Mem} {f : Nat → Int32} (h : zI n M) : zI n (mset M 7 f) := by
  simpa [zI, cU, mset] using h
theorem zR_2 {d x : Int32} {M N : Mem} (h : zR d M N) : zR (d + x) M (mup N 0 2 (N 0 2 + x)) := by
  obtain ⟨h1, h2, h3, h4, h5, h6, h7, h8, h9, h10, h11, h12, h13⟩ := h
  refine ⟨h1, h2, h3, h4, h5, h6, h7, h8, h9, h10, h11, by simpa [mup, mset, upd] using h12, ?_⟩
  simp [mup, mset, upd, ← h13, Int32.add_assoc]
theorem zR_00 {d x : Int32} {M N : Mem} (h : zR d M N) : zR d M (mup N 0 0 x) := by
  obtain ⟨h1, h2, h3, h4, h5, h6, h7, h8, h9, h10, h11, h12, h13⟩ := h
  exact ⟨h1, h2, h3, h4, h5, h6, h7, h8, h9, h10, h11, by simpa [mup, mset, upd] using h12, by simpa [mup, mset, upd] using h13⟩
theorem zR_7 {d x : Int32} {M N : Mem} {c s : Nat} (hc : c < 120) (hs : s < 2) (h : zR d M N) : zR d (mup M 7 (120 * s + c) x) (mup N 9 (2 * c + s) x) := by
  obtain ⟨h1, h2, h3, h4, h5, h6, h7, h8, h9, h10, h11, h12, h13⟩ := h
  refine ⟨by simpa [mup, mset] using h1, by simpa [mup, mset] using h2, by simpa [mup, mset] using h3, by simpa [mup, mset] using h4, by simpa [mup, mset] using h5, by simpa [mup, mset] using h6, by simpa [mup, mset] using h7, by simpa [mup, mset] using h8, ?_, by simpa [mup, mset] using h10, by simpa [mup, mset] using h11, by simpa [mup, mset] using h12, by simpa [mup, mset] using h13⟩
  intro k t hk ht
  simp only [mup, mset_eq]
  by_cases e : k = c ∧ t = s
  · obtain ⟨rfl, rfl⟩ := e; rw [pk_us, pk_us]
  · rw [pk_un (by omega), pk_un (by omega)]; exact h9 k t hk ht
theorem y_side {s : Int32} (h : s = 0 ∨ s = 1) : 0 ≤ s.toInt ∧ s.toInt < 2 := by rcases h with rfl | rfl <;> decide
theorem y_sideN {s : Int32} (h : s = 0 ∨ s = 1) : s.toNatClampNeg < 2 := by rcases h with rfl | rfl <;> decide
theorem y_ne1 {c : Int32} (h : 0 ≤ c.toInt) : c ≠ -1 := by intro e; rw [e] at h; exact absurd h (by decide)
theorem y_cN {c : Int32} (h : 0 ≤ c.toInt ∧ c.toInt < 120) : c.toNatClampNeg < 120 := by simp only [Int32.toNatClampNeg]; omega
/-- the index of a side of a cell's mirror -/
theorem y_m2 {c s : Int32} (hs : s = 0 ∨ s = 1) (hp : 0 ≤ c.toInt ∧ c.toInt < 120) : (c / 40 * 2 + s).toNatClampNeg = (2 * (c / 40) + s).toNatClampNeg ∧ (2 * (c / 40) + s).toNatClampNeg = 2 * (c.toNatClampNeg / 40) + s.toNatClampNeg ∧ (2 * (c / 40) + s).toNatClampNeg < 6 := by
  have e := z_d40 hp.1
  have e2 := y_2 (s := s) (p := c / 40) (y_side hs) (by rw [e]; omega)
  have e3 := y_sideN hs
  have e4 := y_d40 hp.1
  have e5 := y_cN hp
  exact ⟨by rw [Int32.mul_comm], by rw [e2, e4], by omega⟩
theorem u_good {M : Mem} {c s : Int32} (hs : s = 0 ∨ s = 1) (hc : 0 ≤ c.toInt ∧ c.toInt < 120) (hu : M 6 c.toNatClampNeg = 1) : f_X0_isGood c s M = (decide (M 8 (2 * (c.toNatClampNeg / 40) + s.toNatClampNeg) = 0) && decide (M 7 (120 * s.toNatClampNeg + c.toNatClampNeg) = 0)) := by
  unfold f_X0_isGood
  rw [if_pos (q_isCellOnSide.mpr ⟨hc, y_side hs⟩), if_neg (by rw [hu]; decide)]
  unfold f_X4_mirrorOf
  rw [(y_m2 hs hc).1, (y_m2 hs hc).2.1, y_ix120 (y_side hs) hc]
  split
  · rename_i h; simp [h]
  · rename_i h
    split
    · rename_i h2; simp [h2]
    · rename_i h2; simp at h h2; simp [h, h2]
theorem u_good0 {M : Mem} {s : Int32} : f_X0_isGood (-1) s M = false := by
  unfold f_X0_isGood
  rw [if_neg (by rw [q_isCellOnSide]; simp [z_neg1])]
theorem v_good {N : Mem} {c s : Int32} (hs : s = 0 ∨ s = 1) (hc : 0 ≤ c.toInt ∧ c.toInt < 120) : f_X5_isGood c s N = (decide (N 10 (2 * (c.toNatClampNeg / 40) + s.toNatClampNeg) = 0) && decide (N 9 (2 * c.toNatClampNeg + s.toNatClampNeg) = 0)) := by
  unfold f_X5_isGood
  rw [if_neg (y_ne1 hc.1), (y_m2 hs hc).2.1, y_2 (y_side hs) hc]
  split
  · rename_i h; simp [h]
  · rename_i h
    split
    · rename_i h2; simp [h2]
    · rename_i h2; simp at h h2; simp [h, h2]
theorem v_good0 {N : Mem} {s : Int32} : f_X5_isGood (-1) s N = false := by unfold f_X5_isGood; rw [if_pos rfl]
theorem r_good {d c s : Int32} {M N : Mem} (h : zR d M N) (hs : s = 0 ∨ s = 1) (hc : cU M c) : f_X0_isGood c s M = f_X5_isGood c s N := by
  rcases hc with rfl | ⟨hc, hu⟩
  · rw [u_good0, v_good0]
  · have h6 := (y_m2 hs hc).2.2
    rw [(y_m2 hs hc).2.1] at h6
    rw [u_good hs hc hu, v_good hs hc, h.2.2.2.2.2.2.2.2.2.1 _ h6, h.2.2.2.2.2.2.2.2.1 _ _ (y_cN hc) (y_sideN hs)]
theorem u_hasSpoilt {M : Mem} {c s : Int32} (hs : s = 0 ∨ s = 1) (hc : 0 ≤ c.toInt ∧ c.toInt < 120) (hu : M 6 c.toNatClampNeg = 1) : f_X0_hasSpoilt c s M = ! decide (M 7 (120 * s.toNatClampNeg + c.toNatClampNeg) = 0) := by
  unfold f_X0_hasSpoilt
  rw [if_pos (q_isCellOnSide.mpr ⟨hc, y_side hs⟩), if_neg (by rw [hu]; decide), y_ix120 (y_side hs) hc]
  split <;> rename_i h <;> simp [h]
theorem u_hasOnline {M : Mem} {c s : Int32} (hs : s = 0 ∨ s = 1) (hc : 0 ≤ c.toInt ∧ c.toInt < 120) : f_X0_hasOnline (f_X4_mirrorOf c) s M = decide (M 8 (2 * (c.toNatClampNeg / 40) + s.toNatClampNeg) = 0) := by
  unfold f_X0_hasOnline
  have e := z_mirror hc
  rw [if_pos (q_isSideOfMirror.mpr ⟨by rw [e]; omega, y_side hs⟩)]
  unfold f_X4_mirrorOf
  rw [(y_m2 hs hc).1, (y_m2 hs hc).2.1]
  by_cases h : M 8 (2 * (c.toNatClampNeg / 40) + s.toNatClampNeg) = 0 <;> simp [h]
theorem u_mark {M : Mem} {c s : Int32} {b : Bool} (hs : s = 0 ∨ s = 1) (hc : 0 ≤ c.toInt ∧ c.toInt < 120) : f_X0_mark c s b M = mup M 7 (120 * s.toNatClampNeg + c.toNatClampNeg) (bI b) := by
  unfold f_X0_mark
  rw [if_pos (q_isCellOnSide.mpr ⟨hc, y_side hs⟩), y_ix120 (y_side hs) hc]
theorem r_heal {n : Int} {d c s : Int32} {M N : Mem} (h : zRI n d M N) (hs : s = 0 ∨ s = 1) (hc : cU M c) :
    (f_X0_heal c s M).1 = (f_X5_heal c s N).1 ∧ zRI n d (f_X0_heal c s M).2 (f_X5_heal c s N).2 ∧ (∃ f, (f_X0_heal c s M).2 = mset M 7 f) ∧ ∃ f, (f_X5_heal c s N).2 = mset N 9 f := by
  rcases hc with rfl | ⟨hc, hu⟩
  · have e1 : f_X0_heal (-1) s M = (0, M) := by
      unfold f_X0_heal f_X0_hasSpoilt
      rw [if_neg]
      rw [if_neg (by rw [q_isCellOnSide]; simp [z_neg1])]
      decide
    have e2 : f_X5_heal (-1) s N = (0, N) := by unfold f_X5_heal; rw [if_pos rfl]
    rw [e1, e2]
    exact ⟨rfl, h, ⟨M 7, by funext a; unfold mset; split <;> simp [*]⟩, ⟨N 9, by funext a; unfold mset; split <;> simp [*]⟩⟩
  · have h6 := (y_m2 hs hc).2.2
    rw [(y_m2 hs hc).2.1] at h6
    have k1 := h.1.2.2.2.2.2.2.2.2.2.1 _ h6
    have k2 := h.1.2.2.2.2.2.2.2.2.1 _ _ (y_cN hc) (y_sideN hs)
    have sM : ∃ f, M = mset M 7 f := ⟨M 7, by funext a; unfold mset; split <;> simp [*]⟩
    have sN : ∃ f, N = mset N 9 f := ⟨N 9, by funext a; unfold mset; split <;> simp [*]⟩
    unfold f_X0_heal f_X5_heal
    rw [u_hasSpoilt hs hc hu, u_hasOnline hs hc, if_neg (y_ne1 hc.1), (y_m2 hs hc).2.1, y_2 (y_side hs) hc, u_mark hs hc, k1, k2]
    by_cases e1 : N 10 (2 * (c.toNatClampNeg / 40) + s.toNatClampNeg) = 0 <;> by_cases e2 : N 9 (2 * c.toNatClampNeg + s.toNatClampNeg) = 0
    · simp only [e1, e2, decide_true, Bool.not_true, Bool.false_eq_true, if_false, if_true, not_true]; exact ⟨trivial, h, sM, sN⟩
    · simp only [e1, e2, decide_true, decide_false, Bool.not_false, if_false, if_true, not_true, zlet]; exact ⟨trivial, ⟨zR_7 (y_cN hc) (y_sideN hs) h.1, zI_7 h.2⟩, ⟨_, rfl⟩, ⟨_, rfl⟩⟩
    · simp only [e1, e2, decide_true, decide_false, Bool.not_true, Bool.false_eq_true, if_false, if_true, not_false_eq_true]; exact ⟨trivial, h, sM, sN⟩
    · simp only [e1, e2, decide_false, Bool.not_false, Bool.false_eq_true, if_false, if_true, not_false_eq_true]; exact ⟨trivial, h, sM, sN⟩
end
