/-! ===== FACTS of the reference ===== -/
theorem q_in {a b c : Int32} : f_X5_in a b c = true ↔ b.toInt ≤ a.toInt ∧ a.toInt ≤ c.toInt := by
  unfold f_X5_in; simp only [Int32.lt_iff_toInt_lt]; split <;> (try split) <;> simp <;> omega
theorem q_MisBlock {a b : Int32} : f_X5_isBlock a b = true ↔ (0 ≤ a.toInt ∧ a.toInt < 4) ∧ 0 ≤ b.toInt ∧ b.toInt < 12 := by
  unfold f_X5_isBlock
  have h1 := @q_in a 0 3
  have h2 := @q_in b 0 11
  simp only [Int32.reduceToInt] at h1 h2
  split
  · rename_i h; rw [h1] at h
    split
    · rename_i h'; rw [h2] at h'; simp; omega
    · rename_i h'; rw [h2] at h'; simp; omega
  · rename_i h; rw [h1] at h; simp; omega
theorem q_isSide {a b : Int32} : f_X5_isSide a b = true ↔ (0 ≤ a.toInt ∧ a.toInt < 3) ∧ 0 ≤ b.toInt ∧ b.toInt < 2 := by
  unfold f_X5_isSide
  have h1 := @q_in a 0 2
  have h2 := @q_in b 0 1
  simp only [Int32.reduceToInt] at h1 h2
  split
  · rename_i h; rw [h1] at h
    split
    · rename_i h'; rw [h2] at h'; simp; omega
    · rename_i h'; rw [h2] at h'; simp; omega
  · rename_i h; rw [h1] at h; simp; omega
theorem q_MisCell {a b : Int32} : f_X5_isCell a b = true ↔ (0 ≤ a.toInt ∧ a.toInt < 3) ∧ 0 ≤ b.toInt ∧ b.toInt < 40 := by
  unfold f_X5_isCell
  have h1 := @q_in a 0 2
  have h2 := @q_in b 0 39
  simp only [Int32.reduceToInt] at h1 h2
  split
  · rename_i h; rw [h1] at h
    split
    · rename_i h'; rw [h2] at h'; simp; omega
    · rename_i h'; rw [h2] at h'; simp; omega
  · rename_i h; rw [h1] at h; simp; omega
theorem z_b48 {a b : Int32} (h : f_X5_isBlock a b = true) : vp_in (12 * a + b) 48 := by
  have h := q_MisBlock.mp h; rw [vp_in_iff, z12 h.1 ⟨h.2.1, by omega⟩]; omega
theorem z_b53 {a b : Int32} (h : f_X5_isBlock a b = true) : vp_in (12 * a + b) 53 := by
  have h := q_MisBlock.mp h; rw [vp_in_iff, z12 h.1 ⟨h.2.1, by omega⟩]; omega
theorem z_f53 {a : Int32} (h : f_X5_in a 0 3 = true) : vp_in (48 + a) 53 := by
  have h := q_in.mp h; simp only [Int32.reduceToInt] at h; rw [vp_in_iff, z48 (by omega)]; omega
theorem z_f4 {a : Int32} (h : f_X5_in a 0 3 = true) : vp_in a 4 := by
  have h := q_in.mp h; simp only [Int32.reduceToInt] at h; rw [vp_in_iff]; omega
theorem z_s6 {a b : Int32} (h : f_X5_isSide a b = true) : vp_in (2 * a + b) 6 := by
  have h := q_isSide.mp h; rw [vp_in_iff, z2 (by omega) h.2]; omega
theorem z_s6a {a b : Int32} (h : f_X5_isSide a b = true) : vp_in (2 * a) 6 := by
  have h := q_isSide.mp h; rw [vp_in_iff, z2' (by omega)]; omega
theorem z_s6b {a b : Int32} (h : f_X5_isSide a b = true) : vp_in (2 * a + 1) 6 := by
  have h := q_isSide.mp h; rw [vp_in_iff, z2 (b := 1) (by omega) (by decide)]; simp; omega
theorem z_c120 {a b : Int32} (h : f_X5_isCell a b = true) : vp_in (40 * a + b) 120 := by
  have h := q_MisCell.mp h; rw [vp_in_iff, z40 h.1 (by omega)]; omega
theorem z_c240 {a b s : Int32} (h : f_X5_isCell a b = true) (h2 : f_X5_isSide a s = true) : vp_in (2 * (40 * a + b) + s) 240 := by
  have h := q_MisCell.mp h; have h2 := q_isSide.mp h2
  have e := z40 h.1 (b := b) (by omega)
  rw [vp_in_iff, z2 (by omega) h2.2]; omega
theorem sp_heal {a b : Int32} {N : Mem} (h : PlM N) : PlM (f_X5_heal a b N).2 := by
  unfold f_X5_heal
  split
  · exact h
  · split
    · exact h
    · split
      · exact h
      · exact PlM_up (by decide) (by decide) h
theorem z_punch {a b c : Int32} (h : f_X5_isBlock a b = true) (h2 : f_X5_in c b 11 = true) : (0 ≤ a.toInt ∧ a.toInt < 4) ∧ 0 ≤ c.toInt ∧ c.toInt < 12 := by
  have h := q_MisBlock.mp h; have h2 := q_in.mp h2; simp only [Int32.reduceToInt] at h2; omega
theorem z_pi {a b : Int32} (h : f_X5_isBlock a b = true) : (0 : Int) ≤ (12 * a + b).toInt := by
  have h := q_MisBlock.mp h; rw [z12 h.1 (by omega)]; omega
theorem z_in3 {a : Int32} (h : f_X5_in a 0 2 = true) : 0 ≤ a.toInt ∧ a.toInt < 3 := by
  have h := q_in.mp h; simp only [Int32.reduceToInt] at h; omega
theorem sp_healE {q : Int32 × Mem} {a b : Int32} {N : Mem} (e : q = f_X5_heal a b N) (h : PlM N) : PlM q.2 := by rw [e]; exact sp_heal h
