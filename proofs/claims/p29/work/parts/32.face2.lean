section
/-! ===== PURE: the face goes on ===== -/
theorem z_m1' {v : Int32} (h : 0 ≤ v.toInt) : (v + (-1)).toInt = v.toInt - 1 := by
  have h2 := Int32.toInt_lt v
  have e : (v + (-1)).toInt = v.toInt + (-1 : Int32).toInt := z_addI (by simp; omega) (by simp; omega)
  rw [e]; simp; omega
theorem y_m1p (v : Int32) : v + (-1) + 1 = v := by rw [Int32.add_assoc]; exact Int32.add_zero v
/-- what nextData answers from v on -/
def ndF (a : Int32) (M : Mem) (v : Int32) : Int32 ⊕ String := Sum.elim (fun r => r) (fun _ => .inr "java/util/NoSuchElementException") (l_X4_nextData_20 a M (((12 : Int32).toInt - v.toInt).toNat + 1) v)
theorem ndF_12 (a v : Int32) (M : Mem) (h : v.toInt = 12) : ndF a M v = .inr "java/util/NoSuchElementException" := by
  unfold ndF
  rw [show ((12 : Int32).toInt - v.toInt).toNat + 1 = 0 + 1 by rw [h]; rfl]
  show Sum.elim _ _ (b_X4_nextData_20 a M (l_X4_nextData_20 a M 0) v) = _
  unfold b_X4_nextData_20
  rw [if_pos (by rw [Int32.le_iff_toInt_le, h]; decide)]
  rfl
theorem ndF_s (a v : Int32) (M : Mem) (h0 : 0 ≤ v.toInt) (h : v.toInt < 12) : ndF a M v = if f_X4_valueNow a v M = 0 then ndF a M (v + 1) else .inl v := by
  have hg : ¬ 12 ≤ v := by rw [Int32.le_iff_toInt_le]; simp only [Int32.reduceToInt]; omega
  have e := z_p1 hg
  unfold ndF
  rw [show ((12 : Int32).toInt - v.toInt).toNat + 1 = (((12 : Int32).toInt - (v + 1).toInt).toNat + 1) + 1 by rw [e]; simp only [Int32.reduceToInt]; omega]
  show Sum.elim _ _ (b_X4_nextData_20 a M (l_X4_nextData_20 a M (((12 : Int32).toInt - (v + 1).toInt).toNat + 1)) v) = _
  unfold b_X4_nextData_20
  rw [if_neg hg]
  split <;> rfl
def nhF (a : Int32) (M : Mem) (v : Int32) : Int32 ⊕ String := Sum.elim (fun r => r) (fun _ => .inl 12) (l_X4_nextHole_20 a M (((12 : Int32).toInt - v.toInt).toNat + 1) v)
theorem nhF_12 (a v : Int32) (M : Mem) (h : v.toInt = 12) : nhF a M v = .inl 12 := by
  unfold nhF
  rw [show ((12 : Int32).toInt - v.toInt).toNat + 1 = 0 + 1 by rw [h]; rfl]
  show Sum.elim _ _ (b_X4_nextHole_20 a M (l_X4_nextHole_20 a M 0) v) = _
  unfold b_X4_nextHole_20
  rw [if_pos (by rw [Int32.le_iff_toInt_le, h]; decide)]
  rfl
theorem nhF_s (a v : Int32) (M : Mem) (h0 : 0 ≤ v.toInt) (h : v.toInt < 12) : nhF a M v = if ¬ f_X4_valueNow a v M = 0 then nhF a M (v + 1) else .inl v := by
  have hg : ¬ 12 ≤ v := by rw [Int32.le_iff_toInt_le]; simp only [Int32.reduceToInt]; omega
  have e := z_p1 hg
  unfold nhF
  rw [show ((12 : Int32).toInt - v.toInt).toNat + 1 = (((12 : Int32).toInt - (v + 1).toInt).toNat + 1) + 1 by rw [e]; simp only [Int32.reduceToInt]; omega]
  show Sum.elim _ _ (b_X4_nextHole_20 a M (l_X4_nextHole_20 a M (((12 : Int32).toInt - (v + 1).toInt).toNat + 1)) v) = _
  unfold b_X4_nextHole_20
  rw [if_neg hg]
  split <;> rfl
/-- what the reference has found: -1 is nothing -/
def ndE (r : Int32) : Int32 ⊕ String := if r = -1 then .inr "java/util/NoSuchElementException" else .inl r
theorem r_lnd {d a b : Int32} {M N : Mem} (h : zR d M N) (ha : 0 ≤ a.toInt ∧ a.toInt < 4) (hb : 0 ≤ b.toInt ∧ b.toInt < 12) : ∀ (k : Nat) (v3 v5 : Int32), b.toInt - 1 ≤ v5.toInt → v5.toInt ≤ 11 → (v5.toInt + 1 - b.toInt).toNat + 1 ≤ k → ndF a M (v5 + 1) = ndE v3 →
    ndF a M b = ndE (l_X5_nextData_13 a b true N k v3 v5).1 := by
  intro k
  induction k with
  | zero => intro v3 v5 _ _ hk; omega
  | succ k ih =>
    intro v3 v5 g0 g1 hk hv
    show ndF a M b = ndE (b_X5_nextData_13 a b true N (l_X5_nextData_13 a b true N k) v3 v5).1
    unfold b_X5_nextData_13
    rw [if_pos rfl]
    by_cases hg : v5 < b
    · rw [if_pos hg]
      rw [Int32.lt_iff_toInt_lt] at hg
      have e : v5 + 1 = b := Int32.toInt_inj.mp (by rw [z_addI] <;> simp <;> omega)
      rw [e] at hv
      exact hv
    · rw [if_neg hg]
      rw [Int32.lt_iff_toInt_lt] at hg
      have h5 : (v5 + (-1)).toInt = v5.toInt - 1 := z_m1' (by omega)
      have hs := ndF_s a v5 M (by omega) (by omega)
      rw [r_now h ⟨ha, by omega, by omega⟩] at hs
      by_cases e : f_X5_now (12 * a + v5) N = 0
      · rw [if_neg (fun q => q e)]
        refine ih v3 _ (by omega) (by omega) (by omega) ?_
        rw [y_m1p, hs, if_pos e]
        exact hv
      · rw [if_pos e]
        refine ih v5 _ (by omega) (by omega) (by omega) ?_
        rw [y_m1p, hs, if_neg e]
        unfold ndE
        rw [if_neg (y_ne1 (by omega))]
theorem r_lnh {d a b : Int32} {M N : Mem} (h : zR d M N) (ha : 0 ≤ a.toInt ∧ a.toInt < 4) (hb : 0 ≤ b.toInt ∧ b.toInt < 12) : ∀ (k : Nat) (v3 v5 : Int32), b.toInt - 1 ≤ v5.toInt → v5.toInt ≤ 11 → (v5.toInt + 1 - b.toInt).toNat + 1 ≤ k → nhF a M (v5 + 1) = .inl v3 →
    nhF a M b = .inl (l_X5_nextHole_14 a b true N k v3 v5).1 := by
  intro k
  induction k with
  | zero => intro v3 v5 _ _ hk; omega
  | succ k ih =>
    intro v3 v5 g0 g1 hk hv
    show nhF a M b = .inl (b_X5_nextHole_14 a b true N (l_X5_nextHole_14 a b true N k) v3 v5).1
    unfold b_X5_nextHole_14
    rw [if_pos rfl]
    by_cases hg : v5 < b
    · rw [if_pos hg]
      rw [Int32.lt_iff_toInt_lt] at hg
      have e : v5 + 1 = b := Int32.toInt_inj.mp (by rw [z_addI] <;> simp <;> omega)
      rw [e] at hv
      exact hv
    · rw [if_neg hg]
      rw [Int32.lt_iff_toInt_lt] at hg
      have h5 : (v5 + (-1)).toInt = v5.toInt - 1 := z_m1' (by omega)
      have hs := nhF_s a v5 M (by omega) (by omega)
      rw [r_now h ⟨ha, by omega, by omega⟩] at hs
      by_cases e : f_X5_now (12 * a + v5) N = 0
      · rw [if_neg (fun q => q e)]
        refine ih v5 _ (by omega) (by omega) (by omega) ?_
        rw [y_m1p, hs, if_neg (fun q => q e)]
      · rw [if_pos e]
        refine ih v3 _ (by omega) (by omega) (by omega) ?_
        rw [y_m1p, hs, if_pos e]
        exact hv
theorem r_nextData {n : Int} {a b : Int32} {M N : Mem} (h : zRI n 0 M N) : zRI n 0 M (f_X5_nextData a b N).2 ∧ qA cE id (f_X4_nextData a b M) (f_X5_nextData a b N) := by
  unfold f_X4_nextData f_X5_nextData
  rw [e_bl]
  by_cases hb : f_X4_isBlockOfFile a b = true
  · have hr := q_isBlockOfFile.mp hb
    simp only [zlet]
    rw [hb, if_pos rfl, if_pos rfl]
    have e1 := ndF_12 a (11 + 1) M (by decide)
    have e2 : (ndE (-1)) = .inr "java/util/NoSuchElementException" := if_pos rfl
    have := r_lnd h.1 hr.1 hr.2 (((11 : Int32).toInt + 1 - b.toInt).toNat + 1) (-1) 11 (by simp only [Int32.reduceToInt]; omega) (by decide) (by omega) (by rw [e1, e2])
    unfold ndF at this
    rw [this]
    unfold ndE
    by_cases e : (l_X5_nextData_13 a b true N (((11 : Int32).toInt + 1 - b.toInt).toNat + 1) (-1) 11).1 = -1
    · rw [if_pos e, if_neg (fun q => q e)]
      exact ⟨zRI_00 h, by simp [qA, cE, m00]⟩
    · rw [if_neg e, if_pos e]
      exact ⟨zRI_00 h, rfl, by simp [m00]⟩
  · rw [if_neg hb]
    simp only [zlet]
    rw [if_neg hb]
    exact ⟨zRI_00 h, by simp [qA, cE, m00]⟩
theorem r_nextHole {n : Int} {a b : Int32} {M N : Mem} (h : zRI n 0 M N) : zRI n 0 M (f_X5_nextHole a b N).2 ∧ qA cE id (f_X4_nextHole a b M) (f_X5_nextHole a b N) := by
  unfold f_X4_nextHole f_X5_nextHole
  rw [e_bl]
  by_cases hb : f_X4_isBlockOfFile a b = true
  · have hr := q_isBlockOfFile.mp hb
    simp only [zlet]
    rw [hb, if_pos rfl, if_pos rfl]
    have e1 := nhF_12 a (11 + 1) M (by decide)
    have := r_lnh h.1 hr.1 hr.2 (((11 : Int32).toInt + 1 - b.toInt).toNat + 1) 12 11 (by simp only [Int32.reduceToInt]; omega) (by decide) (by omega) (by rw [e1])
    unfold nhF at this
    rw [this]
    exact ⟨zRI_00 h, rfl, by simp [m00]⟩
  · rw [if_neg hb]
    simp only [zlet]
    rw [if_neg hb]
    exact ⟨zRI_00 h, by simp [qA, cE, m00]⟩
theorem r_lcount {d : Int32} {M N : Mem} (h : zR d M N) : ∀ (k : Nat) (v1 v2 : Int32), 0 ≤ v2.toInt → (l_X2_count_4 M k v1 v2).1 = (l_X5_countBuffered_4 N k v1 v2).1 := by
  intro k
  induction k with
  | zero => intro v1 v2 _; rfl
  | succ k ih =>
    intro v1 v2 h0
    show (b_X2_count_4 M (l_X2_count_4 M k) v1 v2).1 = (b_X5_countBuffered_4 N (l_X5_countBuffered_4 N k) v1 v2).1
    unfold b_X2_count_4 b_X5_countBuffered_4
    by_cases hg : 48 ≤ v2
    · rw [if_pos hg, if_pos hg]
    · have hp : 0 ≤ v2.toInt ∧ v2.toInt < 48 := by rw [Int32.le_iff_toInt_le] at hg; simp only [Int32.reduceToInt] at hg; omega
      have e := z_p1 hg
      rw [if_neg hg, if_neg hg, u_holds hp, h.1 _ (y_bN hp), Int32.add_zero]
      by_cases e : N 3 v2.toNatClampNeg = -1
      · simp only [e, decide_true, Bool.not_true, Bool.false_eq_true, if_false, not_true]; exact ih _ _ (by omega)
      · simp only [e, decide_false, Bool.not_false, if_true, not_false_eq_true]; exact ih _ _ (by omega)
theorem r_count {d : Int32} {M N : Mem} (h : zR d M N) : f_X2_count M = f_X5_countBuffered N := r_lcount h 49 0 0 (by decide)
theorem r_buffered {n : Int} {M N : Mem} (h : zRI n 0 M N) : zRI n 0 M (f_X5_buffered N).2 ∧ f_X4_buffered M = (f_X5_buffered N).1 := ⟨zRI_00 h, r_count h.1⟩
theorem r_group {n : Int} {M N : Mem} (h : zRI n 0 M N) : zRI n 0 M (f_X5_group N).2 ∧ f_X4_group M = (f_X5_group N).1 := ⟨zRI_00 h, h.1.2.2.2.2.2.2.2.2.2.2.2.1⟩
theorem r_healed {n : Int} {M N : Mem} (h : zRI n 0 M N) : zRI n 0 M (f_X5_healed N).2 ∧ f_X4_healed M = (f_X5_healed N).1 := ⟨zRI_00 h, by have := h.1.2.2.2.2.2.2.2.2.2.2.2.2; rw [Int32.add_zero] at this; exact this⟩
theorem r_ldrop {n : Int} {d x : Int32} : ∀ (k : Nat) (v2 : Int32) (M N : Mem), zRI n d M N → zRI n d (l_J7_fill_53178_15_5 (-1) 48 k v2 M).2 (l_X5_abandon_7 x k v2 N).2 := by
  intro k
  induction k with
  | zero => intro v2 M N h; exact h
  | succ k ih =>
    intro v2 M N h
    show zRI n d (b_J7_fill_53178_15_5 (-1) 48 (l_J7_fill_53178_15_5 (-1) 48 k) v2 M).2 (b_X5_abandon_7 x (l_X5_abandon_7 x k) v2 N).2
    unfold b_J7_fill_53178_15_5 b_X5_abandon_7
    by_cases hg : 48 ≤ v2
    · rw [if_pos hg, if_pos hg]; exact h
    · rw [if_neg hg, if_neg hg]; exact ih _ _ _ ⟨zR_15 h.1, zI_15 h.2 (by decide)⟩
theorem r_abandon {n : Int} {M N : Mem} (h : zRI n 0 M N) : zRI n 0 (f_X4_abandon M).2 (f_X5_abandon N).2 ∧ (f_X4_abandon M).1 = (f_X5_abandon N).1 :=
  ⟨zRI_00 (r_ldrop 49 0 M N h), r_count h.1⟩
end
