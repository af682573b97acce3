section
/-! ===== PURE: lost ===== -/
theorem y_div {a b : Int32} (ha : 0 ≤ a.toInt ∧ a.toInt < 4) (hb : 0 ≤ b.toInt ∧ b.toInt < 12) : (12 * a + b) / 12 = a ∧ (12 * a + b) - (12 * a + b) / 12 * 12 = b := by
  have e := z12 ha (b := b) (by omega)
  have e0 : 0 ≤ (12 * a + b).toInt := by rw [e]; omega
  refine ⟨Int32.toInt_inj.mp ?_, Int32.toInt_inj.mp ?_⟩
  · rw [z_divI e0 (by decide), e]; simp only [Int32.reduceToInt]; omega
  · rw [z_mod e0 (by decide), e]; simp only [Int32.reduceToInt]; omega
theorem y_f12 {a : Int32} (ha : 0 ≤ a.toInt ∧ a.toInt < 4) : 12 * a + 12 = 12 * (a + 1) := by
  have e := z12 ha (b := 12) (by decide)
  have e1 : (a + 1).toInt = a.toInt + 1 := by have := z_addI (a := a) (b := 1) (by simp; omega) (by simp; omega); simpa using this
  have e2 := z_mulI (a := 12) (k := a + 1) (by rw [e1]; simp only [Int32.reduceToInt]; omega) (by rw [e1]; simp only [Int32.reduceToInt]; omega)
  refine Int32.toInt_inj.mp ?_
  rw [e, e2, e1]; simp only [Int32.reduceToInt]; omega
/-- a block that is there has its file's and the root's pointer -/
theorem r_there {n : Int} {d a b : Int32} {M N : Mem} (h : zRI n d M N) (ha : 0 ≤ a.toInt ∧ a.toInt < 4) (hb : 0 ≤ b.toInt ∧ b.toInt < 12) (ht : f_X5_isThere (12 * a + b) N = true) : f_X5_isThere (48 + a) N = true ∧ f_X5_isThere 52 N = true := by
  have g (p : Int32) (hp : 0 ≤ p.toInt ∧ p.toInt < 53) : f_X5_isThere p N = true ↔ M 11 p.toNatClampNeg ≠ -1 := by
    unfold f_X5_isThere
    rw [h.1.2.2.1 _ (y_pN hp)]
    by_cases e : N 4 p.toNatClampNeg = -1 <;> simp [e]
  rw [g _ (y_bp3 ⟨ha, hb⟩), y_12 ha (by omega)] at ht
  have ea : a.toNatClampNeg < 4 := by simp only [Int32.toNatClampNeg]; omega
  have eb : b.toNatClampNeg < 12 := by simp only [Int32.toNatClampNeg]; omega
  have h1 := h.2.2.2.2.2.1 _ _ ea eb ht
  have h2 := h.2.2.2.2.2.2.1 _ ea h1
  rw [g _ (y_fp ha), y_48 ha, g _ y_52]
  exact ⟨h1, h2⟩
theorem r_llin {n : Int} {d x : Int32} {x3 : Bool} {M N : Mem} (h : zRI n d M N) (hx : 0 ≤ x.toInt ∧ x.toInt < 4) (h3 : x3 = (f_X5_isReadable 52 N && f_X5_isReadable (48 + x) N)) : ∀ (j : Nat) (v1 v4 : Int32) (k : Nat), 0 ≤ v4.toInt → v4.toInt + j = 12 →
    l_X5_lost_4 N (j + k) v1 (12 * x + v4) = l_X5_lost_4 N k (l_X4_lost_38 x x3 M (j + 1) v1 v4).1 (12 * x + 12) := by
  intro j
  induction j with
  | zero =>
    intro v1 v4 k g0 g1
    have e : v4 = 12 := Int32.toInt_inj.mp (by simp only [Int32.reduceToInt]; omega)
    subst e
    show _ = l_X5_lost_4 N k (b_X4_lost_38 x x3 M (l_X4_lost_38 x x3 M 0) v1 12).1 (12 * x + 12)
    unfold b_X4_lost_38
    rw [if_pos (by decide), Nat.zero_add]
  | succ j ih =>
    intro v1 v4 k g0 g1
    have hv : 0 ≤ v4.toInt ∧ v4.toInt < 12 := by omega
    have hg : ¬ 12 ≤ v4 := by rw [Int32.le_iff_toInt_le]; simp only [Int32.reduceToInt]; omega
    have hn := z_p1 hg
    have hp := y_bp ⟨hx, hv⟩
    have hp3 := y_bp3 ⟨hx, hv⟩
    rw [show j + 1 + k = (j + k) + 1 by omega]
    show b_X5_lost_4 N (l_X5_lost_4 N (j + k)) v1 (12 * x + v4) = l_X5_lost_4 N k (b_X4_lost_38 x x3 M (l_X4_lost_38 x x3 M (j + 1)) v1 v4).1 (12 * x + 12)
    unfold b_X5_lost_4 b_X4_lost_38
    rw [if_neg hg, if_neg (by rw [Int32.le_iff_toInt_le]; simp only [Int32.reduceToInt]; omega), y_pt, r_missing h hp3, r_fetch h hp3, (y_div hx hv).1, Int32.add_assoc (12 * x) v4 1, Int32.add_zero]
    rw [show 12 * x + v4 - x * 12 = v4 by have := (y_div hx hv).2; rw [(y_div hx hv).1] at this; exact this]
    by_cases et : f_X5_isThere (12 * x + v4) N = true
    · obtain ⟨t1, t2⟩ := r_there h hx hv et
      rw [et, if_pos rfl, u_isCut, t1, t2, et]
      simp only [Bool.true_and, Bool.not_true, Bool.false_eq_true, if_false]
      subst h3
      have ih2 := fun w => ih w (v4 + 1) k (by omega) (by omega)
      clear ih
      revert ih2
      generalize f_X5_isReadable 52 N = A
      generalize f_X5_isReadable (48 + x) N = B
      generalize f_X5_isReadable (12 * x + v4) N = C
      intro ih2
      cases A <;> cases B <;> cases C <;> first | exact ih2 v1 | exact ih2 (v1 + 1)
    · rw [if_neg et]
      have : f_X5_isThere (12 * x + v4) N = false := by simpa using et
      rw [this]
      simp only [Bool.not_false, if_true]
      exact ih _ (v4 + 1) k (by omega) (by omega)
theorem r_llout {n : Int} {d : Int32} {M N : Mem} (h : zRI n d M N) : ∀ (i : Nat) (f v1 : Int32), 0 ≤ f.toInt → f.toInt + i = 4 →
    (l_X5_lost_4 N (12 * i + 1) v1 (12 * f)).1 = (l_X4_lost_4 M (i + 1) v1 f).1 := by
  intro i
  induction i with
  | zero =>
    intro f v1 g0 g1
    have e : f = 4 := Int32.toInt_inj.mp (by simp only [Int32.reduceToInt]; omega)
    subst e
    show (b_X5_lost_4 N (l_X5_lost_4 N 0) v1 (12 * 4)).1 = (b_X4_lost_4 M (l_X4_lost_4 M 0) v1 4).1
    unfold b_X5_lost_4 b_X4_lost_4
    rw [if_pos (by decide), if_pos (by decide)]
  | succ i ih =>
    intro f v1 g0 g1
    have hx : 0 ≤ f.toInt ∧ f.toInt < 4 := by omega
    have hg : ¬ 4 ≤ f := by rw [Int32.le_iff_toInt_le]; simp only [Int32.reduceToInt]; omega
    have hn := z_p1 hg
    show _ = (b_X4_lost_4 M (l_X4_lost_4 M (i + 1)) v1 f).1
    unfold b_X4_lost_4
    rw [if_neg hg]
    simp only [zlet]
    rw [r_fetch h y_52, show f_X4_filePointer f = 48 + f from rfl, r_fetch h (y_fp hx)]
    have h3 : (if f_X5_isReadable 52 N = true then if f_X5_isReadable (48 + f) N = true then true else false else false) = (f_X5_isReadable 52 N && f_X5_isReadable (48 + f) N) := by
      cases f_X5_isReadable 52 N <;> cases f_X5_isReadable (48 + f) N <;> rfl
    have := r_llin h hx h3 12 v1 0 (12 * i + 1) (by decide) (by decide)
    rw [Int32.add_zero] at this
    rw [show 12 * (i + 1) + 1 = 12 + (12 * i + 1) by omega, this, y_f12 hx]
    exact ih _ _ (by omega) (by omega)
theorem r_lost {n : Int} {M N : Mem} (h : zRI n 0 M N) : zRI n 0 M (f_X5_lost N).2 ∧ f_X4_lost M = (f_X5_lost N).1 := by
  have e := r_llout h 4 0 0 (by decide) (by decide)
  exact ⟨zRI_00 h, e.symm⟩
end
