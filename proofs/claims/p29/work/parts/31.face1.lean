/-! ===== PURE: the face, but for sync, online, scrub, lost ===== -/
section
theorem e_bl (a b : Int32) : f_X5_isBlock a b = f_X4_isBlockOfFile a b := by rw [Bool.eq_iff_iff, q_MisBlock, q_isBlockOfFile]
theorem e_sd (a b : Int32) : f_X5_isSide a b = f_X4_isSideOfMirror a b := by rw [Bool.eq_iff_iff, q_isSide, q_isSideOfMirror]
theorem e_fl (a : Int32) : f_X5_in a 0 3 = f_X4_isFile a := by rw [Bool.eq_iff_iff, q_in, q_isFile]; simp only [Int32.reduceToInt]; omega
theorem e_mr (a : Int32) : f_X5_in a 0 2 = f_X4_isMirror a := by rw [Bool.eq_iff_iff, q_in, q_isMirror]; simp only [Int32.reduceToInt]; omega
theorem e_cl (a b : Int32) : f_X5_isCell a b = (f_X4_isMirror a && f_X4_isCell b) := by rw [Bool.eq_iff_iff, q_MisCell, Bool.and_eq_true, q_isMirror, q_isCell]
/-- which exception, by its place in the list of the method -/
def cE (e : String) : Int32 := if e = "java/lang/IllegalArgumentException" then 1 else 2
def c1E (_ : String) : Int32 := 1
def qA {α β : Type} (E : String → Int32) (f : α → β) (a : α ⊕ String) (b : β × Mem) : Prop := Sum.elim (fun v => b.1 = f v ∧ b.2 0 0 = 0) (fun e => b.2 0 0 = E e) a
theorem zR_15 {d x : Int32} {M N : Mem} {k : Nat} (h : zR d M N) : zR d (mup M 15 k x) (mup N 3 k x) := by
  obtain ⟨h1, h2, h3, h4, h5, h6, h7, h8, h9, h10, h11, h12, h13⟩ := h
  refine ⟨?_, by simpa [mup, mset] using h2, by simpa [mup, mset] using h3, by simpa [mup, mset] using h4, by simpa [mup, mset] using h5, by simpa [mup, mset] using h6, by simpa [mup, mset] using h7, by simpa [mup, mset] using h8, by simpa [mup, mset] using h9, by simpa [mup, mset] using h10, by simpa [mup, mset] using h11, by simpa [mup, mset] using h12, by simpa [mup, mset] using h13⟩
  intro j hj
  simp only [mup, mset_eq, upd]
  split
  · rfl
  · exact h1 j hj
theorem zR_5 {d x : Int32} {M N : Mem} {k : Nat} (h : zR d M N) : zR d (mup M 5 k x) (mup N 1 k x) := by
  obtain ⟨h1, h2, h3, h4, h5, h6, h7, h8, h9, h10, h11, h12, h13⟩ := h
  refine ⟨by simpa [mup, mset] using h1, by simpa [mup, mset] using h2, by simpa [mup, mset] using h3, by simpa [mup, mset] using h4, by simpa [mup, mset] using h5, by simpa [mup, mset] using h6, ?_, by simpa [mup, mset] using h8, by simpa [mup, mset] using h9, by simpa [mup, mset] using h10, by simpa [mup, mset] using h11, by simpa [mup, mset] using h12, by simpa [mup, mset] using h13⟩
  intro j hj
  simp only [mup, mset_eq, upd]
  split
  · rfl
  · exact h7 j hj
theorem zI_15 {n : Int} {x : Int32} {M : Mem} {k : Nat} (h : zI n M) (hx : -1 ≤ x.toInt) : zI n (mup M 15 k x) := by
  obtain ⟨h1, h2, h3, h4, h5, h6, h7, h8, h9, h10, h11, h12⟩ := h
  refine ⟨by simpa [cU, mup, mset] using h1, by simpa [mup, mset] using h2, by simpa [mup, mset] using h3, by simpa [mup, mset] using h4, by simpa [mup, mset] using h5, by simpa [mup, mset] using h6, by simpa [mup, mset] using h7, by simpa [mup, mset] using h8, by simpa [mup, mset] using h9, by simpa [mup, mset] using h10, ?_, by simpa [mup, mset] using h12⟩
  intro j hj
  simp only [mup, mset_eq, upd]
  split
  · exact hx
  · exact h11 j hj
theorem zI_5 {n : Int} {x : Int32} {M : Mem} {k : Nat} (h : zI n M) (hx : x = 1 ∨ x = 2) : zI n (mup M 5 k x) := by
  obtain ⟨h1, h2, h3, h4, h5, h6, h7, h8, h9, h10, h11, h12⟩ := h
  refine ⟨by simpa [cU, mup, mset] using h1, by simpa [mup, mset] using h2, by simpa [mup, mset] using h3, by simpa [mup, mset] using h4, by simpa [mup, mset] using h5, by simpa [mup, mset] using h6, by simpa [mup, mset] using h7, by simpa [mup, mset] using h8, by simpa [mup, mset] using h9, by simpa [mup, mset] using h10, by simpa [mup, mset] using h11, ?_⟩
  intro j hj
  simp only [mup, mset_eq, upd]
  split
  · exact hx
  · exact h12 j hj
theorem zRI_00 {n : Int} {d x : Int32} {M N : Mem} (h : zRI n d M N) : zRI n d M (mup N 0 0 x) := ⟨zR_00 h.1, h.2⟩
theorem m00 (N : Mem) (x : Int32) : (mup N 0 0 x) 0 0 = x := by simp [mup, mset, upd]
-- blocks
theorem u_holds {p : Int32} {M : Mem} (hp : 0 ≤ p.toInt ∧ p.toInt < 48) : f_X2_holds p M = ! decide (M 15 p.toNatClampNeg = -1) := by
  unfold f_X2_holds; rw [if_pos (q_isBlockPointer.mpr hp)]
  by_cases e : M 15 p.toNatClampNeg = -1 <;> simp [e]
theorem u_changeOf {p : Int32} {M : Mem} (hp : 0 ≤ p.toInt ∧ p.toInt < 48) : f_X2_changeOf p M = M 15 p.toNatClampNeg := by
  unfold f_X2_changeOf; rw [if_pos (q_isBlockPointer.mpr hp)]
theorem u_valueOf {p : Int32} {M : Mem} (hp : 0 ≤ p.toInt ∧ p.toInt < 48) : f_X3_valueOf p M = M 10 p.toNatClampNeg := by
  unfold f_X3_valueOf; rw [if_pos (q_isBlockPointer.mpr hp)]
theorem u_change {p x : Int32} {M : Mem} (hp : 0 ≤ p.toInt ∧ p.toInt < 48) : f_X2_change p x M = mup M 15 p.toNatClampNeg x := by
  unfold f_X2_change; rw [if_pos (q_isBlockPointer.mpr hp)]
theorem y_bN {p : Int32} (hp : 0 ≤ p.toInt ∧ p.toInt < 48) : p.toNatClampNeg < 48 := by simp only [Int32.toNatClampNeg]; omega
theorem y_bp {a b : Int32} (h : (0 ≤ a.toInt ∧ a.toInt < 4) ∧ 0 ≤ b.toInt ∧ b.toInt < 12) : 0 ≤ (12 * a + b).toInt ∧ (12 * a + b).toInt < 48 := by rw [z12 h.1 (by omega)]; omega
theorem y_bp3 {a b : Int32} (h : (0 ≤ a.toInt ∧ a.toInt < 4) ∧ 0 ≤ b.toInt ∧ b.toInt < 12) : 0 ≤ (12 * a + b).toInt ∧ (12 * a + b).toInt < 53 := by rw [z12 h.1 (by omega)]; omega
theorem y_fp {a : Int32} (h : 0 ≤ a.toInt ∧ a.toInt < 4) : 0 ≤ (48 + a).toInt ∧ (48 + a).toInt < 53 := by rw [z48 h]; omega
theorem y_52 : 0 ≤ (52 : Int32).toInt ∧ (52 : Int32).toInt < 53 := by decide
theorem r_now {d a b : Int32} {M N : Mem} (h : zR d M N) (hp : (0 ≤ a.toInt ∧ a.toInt < 4) ∧ 0 ≤ b.toInt ∧ b.toInt < 12) : f_X4_valueNow a b M = f_X5_now (12 * a + b) N := by
  have hb := y_bp hp
  unfold f_X4_valueNow f_X5_now
  rw [y_pt, u_holds hb, u_changeOf hb, u_valueOf hb, h.1 _ (y_bN hb), h.2.1 _ (y_bN hb)]
  by_cases e : N 3 (12 * a + b).toNatClampNeg = -1 <;> simp [e]
theorem r_write {n : Int} {a b v : Int32} {M N : Mem} (h : zRI n 0 M N) : zRI n 0 (f_X4_write a b v M).2 (f_X5_write a b v N).2 ∧ qA cE id (f_X4_write a b v M).1 (f_X5_write a b v N) := by
  unfold f_X4_write f_X5_write
  rw [e_bl]
  have e : f_X5_in v 1 9999 = true ↔ ¬ v < 1 ∧ v ≤ 9999 := by
    rw [q_in, Int32.lt_iff_toInt_lt, Int32.le_iff_toInt_le]; simp only [Int32.reduceToInt]; omega
  by_cases hb : f_X4_isBlockOfFile a b = true
  · have hr := q_isBlockOfFile.mp hb
    have hp := y_bp hr
    rw [if_pos hb, if_pos hb]
    by_cases h1 : v < 1
    · rw [if_pos h1, if_neg (fun q => (e.mp q).1 h1)]
      exact ⟨zRI_00 h, by simp [qA, cE, m00]⟩
    · rw [if_neg h1]
      by_cases h2 : v ≤ 9999
      · rw [if_pos h2, if_pos (e.mpr ⟨h1, h2⟩)]
        simp only [zlet]
        rw [y_pt, u_change hp, r_now (zR_00 (x := 0) h.1) hr]
        refine ⟨⟨zR_15 (zR_00 h.1), zI_15 h.2 ?_⟩, ?_⟩
        · rw [Int32.lt_iff_toInt_lt] at h1; simp only [Int32.reduceToInt] at h1; omega
        · refine ⟨rfl, ?_⟩
          simp [mup, mset, upd]
      · rw [if_neg h2, if_neg (fun q => h2 (e.mp q).2)]
        exact ⟨zRI_00 h, by simp [qA, cE, m00]⟩
  · rw [if_neg hb, if_neg hb]
    exact ⟨zRI_00 h, by simp [qA, cE, m00]⟩
theorem r_setCopies {n : Int} {a v : Int32} {M N : Mem} (h : zRI n 0 M N) : zRI n 0 (f_X4_setCopies a v M).2 (f_X5_setCopies a v N).2 ∧ qA cE id (f_X4_setCopies a v M).1 (f_X5_setCopies a v N) := by
  unfold f_X4_setCopies f_X5_setCopies
  rw [e_fl]
  have e : f_X5_in v 1 2 = true ↔ ¬ v < 1 ∧ v ≤ 2 := by
    rw [q_in, Int32.lt_iff_toInt_lt, Int32.le_iff_toInt_le]; simp only [Int32.reduceToInt]; omega
  by_cases hb : f_X4_isFile a = true
  · have hr := q_isFile.mp hb
    rw [if_pos hb, if_pos hb]
    by_cases h1 : v < 1
    · rw [if_pos h1, if_neg (fun q => (e.mp q).1 h1)]
      exact ⟨zRI_00 h, by simp [qA, cE, m00]⟩
    · rw [if_neg h1]
      by_cases h2 : v ≤ 2
      · rw [if_pos h2, if_pos (e.mpr ⟨h1, h2⟩)]
        have hv : v = 1 ∨ v = 2 := by
          rw [Int32.lt_iff_toInt_lt] at h1; rw [Int32.le_iff_toInt_le] at h2; simp only [Int32.reduceToInt] at h1 h2
          rcases (by omega : v.toInt = 1 ∨ v.toInt = 2) with q | q
          · exact Or.inl (Int32.toInt_inj.mp (by simpa using q))
          · exact Or.inr (Int32.toInt_inj.mp (by simpa using q))
        refine ⟨⟨zR_5 (zR_00 h.1), zI_5 h.2 hv⟩, ?_, ?_⟩
        · have := h.1.2.2.2.2.2.2.1 a.toNatClampNeg (by simp only [Int32.toNatClampNeg]; omega)
          simp [mup, mset, this]
        · simp [mup, mset, upd]
      · rw [if_neg h2, if_neg (fun q => h2 (e.mp q).2)]
        exact ⟨zRI_00 h, by simp [qA, cE, m00]⟩
  · rw [if_neg hb, if_neg hb]
    exact ⟨zRI_00 h, by simp [qA, cE, m00]⟩
theorem r_lpunch {n : Int} {d x1 x3 : Int32} (h1 : 0 ≤ x1.toInt ∧ x1.toInt < 4) (h3 : 0 ≤ x3.toInt ∧ x3.toInt < 12) : ∀ (k : Nat) (v4 v5 : Int32) (M N : Mem), zRI n d M N → 0 ≤ v5.toInt → v5.toInt ≤ 12 →
    (l_X4_punch_36 x1 x3 k v4 v5 M).1 = (l_X5_punch_43 x1 x3 k v4 (12 * x1 + v5) N).1 ∧ zRI n d (l_X4_punch_36 x1 x3 k v4 v5 M).2.2 (l_X5_punch_43 x1 x3 k v4 (12 * x1 + v5) N).2.2 ∧ (l_X5_punch_43 x1 x3 k v4 (12 * x1 + v5) N).2.2 0 = N 0 := by
  intro k
  induction k with
  | zero => intro v4 v5 M N h _ _; exact ⟨rfl, h, rfl⟩
  | succ k ih =>
    intro v4 v5 M N h g0 g1
    show (b_X4_punch_36 x1 x3 (l_X4_punch_36 x1 x3 k) v4 v5 M).1 = (b_X5_punch_43 x1 x3 (l_X5_punch_43 x1 x3 k) v4 (12 * x1 + v5) N).1 ∧ zRI n d (b_X4_punch_36 x1 x3 (l_X4_punch_36 x1 x3 k) v4 v5 M).2.2 (b_X5_punch_43 x1 x3 (l_X5_punch_43 x1 x3 k) v4 (12 * x1 + v5) N).2.2 ∧ (b_X5_punch_43 x1 x3 (l_X5_punch_43 x1 x3 k) v4 (12 * x1 + v5) N).2.2 0 = N 0
    unfold b_X4_punch_36 b_X5_punch_43
    have eg : (12 * x1 + x3 < 12 * x1 + v5) ↔ x3 < v5 := by
      rw [Int32.lt_iff_toInt_lt, Int32.lt_iff_toInt_lt, z12 h1 (by omega), z12 h1 (by omega)]; omega
    by_cases hg : x3 < v5
    · rw [if_pos hg, if_pos (eg.mpr hg)]; exact ⟨rfl, h, rfl⟩
    · rw [if_neg hg, if_neg (fun q => hg (eg.mp q))]
      have hv : v5.toInt < 12 := by rw [Int32.lt_iff_toInt_lt] at hg; omega
      have hp := y_bp ⟨h1, g0, hv⟩
      have hn : (v5 + 1).toInt = v5.toInt + 1 := z_p1l hg (by omega)
      have h' : zRI n d (mup M 15 (12 * x1 + v5).toNatClampNeg 0) (mup N 3 (12 * x1 + v5).toNatClampNeg 0) := ⟨zR_15 h.1, zI_15 h.2 (by decide)⟩
      have hz : (mup N 3 (12 * x1 + v5).toNatClampNeg 0) 0 = N 0 := by simp [mup, mset]
      rw [r_now h.1 ⟨h1, g0, hv⟩]
      simp only [zlet, y_pt, u_change hp, Int32.add_assoc (12 * x1) v5 1, Int32.add_zero]
      by_cases e : f_X5_now (12 * x1 + v5) N = 0
      · rw [if_pos e, if_neg (fun q => q e)]
        have := ih v4 (v5 + 1) _ _ h' (by omega) (by omega)
        rw [hz] at this
        exact this
      · rw [if_neg e, if_pos e]
        have := ih (v4 + 1) (v5 + 1) _ _ h' (by omega) (by omega)
        rw [hz] at this
        exact this
theorem r_punch {n : Int} {a b c : Int32} {M N : Mem} (h : zRI n 0 M N) : zRI n 0 (f_X4_punch a b c M).2 (f_X5_punch a b c N).2 ∧ qA cE id (f_X4_punch a b c M).1 (f_X5_punch a b c N) := by
  unfold f_X4_punch f_X5_punch
  rw [e_bl]
  have e : f_X5_in c b 11 = true ↔ b.toInt ≤ c.toInt ∧ c.toInt ≤ 11 := q_in
  by_cases hb : f_X4_isBlockOfFile a b = true
  · have hr := q_isBlockOfFile.mp hb
    rw [if_pos hb, if_pos hb]
    by_cases h1 : f_X4_isBlock c = true
    · have hc := q_isBlock.mp h1
      rw [if_pos h1]
      by_cases h2 : b ≤ c
      · rw [if_pos h2]
        rw [Int32.le_iff_toInt_le] at h2
        rw [if_pos (e.mpr (by omega))]
        simp only [zlet]
        have ef : (((12 * a + c : Int32).toInt + 1 - (12 * a + b : Int32).toInt).toNat + 1) = ((c.toInt + 1 - b.toInt).toNat + 1) := by
          rw [z12 hr.1 (by omega), z12 hr.1 (by omega)]; omega
        rw [ef]
        obtain ⟨r1, r2, r3⟩ := r_lpunch hr.1 hc ((c.toInt + 1 - b.toInt).toNat + 1) 0 b M (mup N 0 0 0) (zRI_00 h) (by omega) (by omega)
        exact ⟨r2, r1.symm, by rw [r3, m00]⟩
      · rw [if_neg h2]
        rw [Int32.le_iff_toInt_le] at h2
        rw [if_neg (fun q => h2 (e.mp q).1)]
        exact ⟨zRI_00 h, by simp [qA, cE, m00]⟩
    · rw [if_neg h1, if_neg (fun q => h1 (q_isBlock.mpr (by have := e.mp q; omega)))]
      exact ⟨zRI_00 h, by simp [qA, cE, m00]⟩
  · rw [if_neg hb, if_neg hb]
    exact ⟨zRI_00 h, by simp [qA, cE, m00]⟩
end
