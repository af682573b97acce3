/-! ===== FACTS: what the ranges say, indices ===== -/
theorem q_isFile {p : Int32} : f_X4_isFile p = true ↔ 0 ≤ p.toInt ∧ p.toInt < 4 := by
  unfold f_X4_isFile; simp only [Int32.lt_iff_toInt_lt, Int32.le_iff_toInt_le, Int32.reduceToInt]; split <;> (try split) <;> simp <;> omega
theorem q_isBlock {p : Int32} : f_X4_isBlock p = true ↔ 0 ≤ p.toInt ∧ p.toInt < 12 := by
  unfold f_X4_isBlock; simp only [Int32.lt_iff_toInt_lt, Int32.le_iff_toInt_le, Int32.reduceToInt]; split <;> (try split) <;> simp <;> omega
theorem q_isMirror {p : Int32} : f_X4_isMirror p = true ↔ 0 ≤ p.toInt ∧ p.toInt < 3 := by
  unfold f_X4_isMirror; simp only [Int32.lt_iff_toInt_lt, Int32.le_iff_toInt_le, Int32.reduceToInt]; split <;> (try split) <;> simp <;> omega
theorem q_isCell {p : Int32} : f_X4_isCell p = true ↔ 0 ≤ p.toInt ∧ p.toInt < 40 := by
  unfold f_X4_isCell; simp only [Int32.lt_iff_toInt_lt, Int32.le_iff_toInt_le, Int32.reduceToInt]; split <;> (try split) <;> simp <;> omega
theorem q_isPlaceNumber {p : Int32} : f_X4_isPlaceNumber p = true ↔ 0 ≤ p.toInt ∧ p.toInt < 120 := by
  unfold f_X4_isPlaceNumber; simp only [Int32.lt_iff_toInt_lt, Int32.le_iff_toInt_le, Int32.reduceToInt]; split <;> (try split) <;> simp <;> omega
theorem q_isPointer {p : Int32} : f_X4_isPointer p = true ↔ 0 ≤ p.toInt ∧ p.toInt < 53 := by
  unfold f_X4_isPointer; simp only [Int32.lt_iff_toInt_lt, Int32.le_iff_toInt_le, Int32.reduceToInt]; split <;> (try split) <;> simp <;> omega
theorem q_isBlockPointer {p : Int32} : f_X4_isBlockPointer p = true ↔ 0 ≤ p.toInt ∧ p.toInt < 48 := by
  unfold f_X4_isBlockPointer; simp only [Int32.lt_iff_toInt_lt, Int32.le_iff_toInt_le, Int32.reduceToInt]; split <;> (try split) <;> simp <;> omega
theorem q_isBlockOfFile {a b : Int32} : f_X4_isBlockOfFile a b = true ↔ (0 ≤ a.toInt ∧ a.toInt < 4) ∧ (0 ≤ b.toInt ∧ b.toInt < 12) := by
  unfold f_X4_isBlockOfFile; rw [← q_isFile, ← q_isBlock]; split <;> (try split) <;> simp_all
theorem q_isSideOfMirror {a b : Int32} : f_X4_isSideOfMirror a b = true ↔ (0 ≤ a.toInt ∧ a.toInt < 3) ∧ (0 ≤ b.toInt ∧ b.toInt < 2) := by
  unfold f_X4_isSideOfMirror; simp only [Int32.lt_iff_toInt_lt, Int32.le_iff_toInt_le, Int32.reduceToInt]; split <;> (try split) <;> (try split) <;> (try split) <;> simp <;> omega
theorem q_isCellOnSide {a b : Int32} : f_X4_isCellOnSide a b = true ↔ (0 ≤ a.toInt ∧ a.toInt < 120) ∧ (0 ≤ b.toInt ∧ b.toInt < 2) := by
  unfold f_X4_isCellOnSide; simp only [Int32.lt_iff_toInt_lt, Int32.le_iff_toInt_le, Int32.reduceToInt]; split <;> (try split) <;> (try split) <;> (try split) <;> simp <;> omega
theorem z_mulI {a k : Int32} (h1 : 0 ≤ a.toInt * k.toInt) (h2 : a.toInt * k.toInt < 2 ^ 31) : (a * k).toInt = a.toInt * k.toInt := by
  rw [Int32.toInt_mul, Int.bmod_eq_of_le] <;> omega
theorem z_addI {a b : Int32} (h1 : -(2 ^ 31) ≤ a.toInt + b.toInt) (h2 : a.toInt + b.toInt < 2 ^ 31) : (a + b).toInt = a.toInt + b.toInt := by
  rw [Int32.toInt_add, Int.bmod_eq_of_le] <;> omega
theorem z_divI {a b : Int32} (h1 : 0 ≤ a.toInt) (h2 : 0 < b.toInt) : (a / b).toInt = a.toInt / b.toInt := by
  have h3 := Int32.toInt_lt a
  have h4 : 0 ≤ a.toInt / b.toInt := Int.ediv_nonneg h1 (by omega)
  have h5 : a.toInt / b.toInt ≤ a.toInt := Int.ediv_le_self _ h1
  rw [Int32.toInt_div, Int.tdiv_eq_ediv_of_nonneg h1, Int.bmod_eq_of_le] <;> omega
theorem z_ge0 {C v : Int32} (h : ¬ C ≤ v) (h0 : (0 : Int) ≤ v.toInt) : (0 : Int) ≤ (v + 1).toInt := by
  rw [Int32.le_iff_toInt_le] at h
  have h1 := Int32.toInt_lt C
  have e : (v + 1).toInt = v.toInt + (1 : Int32).toInt := z_addI (by simp; omega) (by simp; omega)
  rw [e]; simp; omega
theorem z_ix2 {m s : Int32} (hm : 0 ≤ m.toInt ∧ m.toInt < 3) (hs : 0 ≤ s.toInt ∧ s.toInt < 2) : vp_in (m * 2 + s) 6 := by
  have e1 : (m * 2).toInt = m.toInt * (2 : Int32).toInt := z_mulI (by simp; omega) (by simp; omega)
  simp only [Int32.reduceToInt] at e1
  have e2 : (m * 2 + s).toInt = (m * 2).toInt + s.toInt := z_addI (by omega) (by omega)
  rw [vp_in_iff, e2, e1]; omega
theorem z_ix120 {s p : Int32} (hs : 0 ≤ s.toInt ∧ s.toInt < 2) (hp : 0 ≤ p.toInt ∧ p.toInt < 120) : vp_in (s * 120 + p) 240 := by
  have e1 : (s * 120).toInt = s.toInt * (120 : Int32).toInt := z_mulI (by simp; omega) (by simp; omega)
  simp only [Int32.reduceToInt] at e1
  have e2 : (s * 120 + p).toInt = (s * 120).toInt + p.toInt := z_addI (by omega) (by omega)
  rw [vp_in_iff, e2, e1]; omega
theorem z_mirror {p : Int32} (hp : 0 ≤ p.toInt ∧ p.toInt < 120) : (f_X4_mirrorOf p).toInt = p.toInt / 40 := by
  have e := z_divI (a := p) (b := 40) hp.1 (by decide)
  simpa [f_X4_mirrorOf] using e
theorem z_ixm {p s : Int32} (hp : 0 ≤ p.toInt ∧ p.toInt < 120) (hs : 0 ≤ s.toInt ∧ s.toInt < 2) : vp_in (f_X4_mirrorOf p * 2 + s) 6 := by
  have e := z_mirror hp
  exact z_ix2 (by rw [e]; omega) hs
