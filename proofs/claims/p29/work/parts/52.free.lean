section
/-! ===== PURE, sync: the class frees ===== -/
theorem u_use {x : Int32} {M : Mem} : (∀ j, j ≠ 6 → f_X0_use x M j = M j) ∧ ∀ c, c < 120 → f_X0_use x M 6 c = if x = nI c then 1 else M 6 c := by
  unfold f_X0_use
  by_cases h : f_X4_isPlaceNumber x = true
  · rw [if_pos h]
    have hx := q_isPlaceNumber.mp h
    have hN := y_N hx.1
    refine ⟨fun j hj => by unfold mup; rw [mset_ne hj], fun c hc => ?_⟩
    have e : (mup M 6 x.toNatClampNeg 1) 6 = upd (M 6) x.toNatClampNeg 1 := by simp [mup, mset]
    rw [e]
    by_cases q : x = nI c
    · have : x.toNatClampNeg = c := by rw [q]; exact nI_clamp (by omega)
      rw [if_pos q, this, pk_us]
    · have : c ≠ x.toNatClampNeg := fun w => q (Int32.toInt_inj.mp (by rw [nI_toInt (by omega)]; omega))
      rw [if_neg q, pk_un this]
  · rw [if_neg h]
    refine ⟨fun _ _ => rfl, fun c hc => ?_⟩
    rw [if_neg (fun q => h (q_isPlaceNumber.mpr (by rw [q, nI_toInt (by omega)]; omega)))]
theorem u_lfa : ∀ (k : Nat) (v1 : Int32) (M : Mem), 0 ≤ v1.toInt → (120 - v1.toInt).toNat + 1 ≤ k →
    (l_X0_freeAll_2 k v1 M).2 = mset M 6 (fun j => if v1.toNatClampNeg ≤ j ∧ j < 120 then 0 else M 6 j) := by
  intro k
  induction k with
  | zero => intro v2 M _ h; omega
  | succ k ih =>
    intro v1 M h0 hk
    show (b_X0_freeAll_2 (l_X0_freeAll_2 k) v1 M).2 = _
    unfold b_X0_freeAll_2
    have hN := y_N h0
    by_cases hg : 120 ≤ v1
    · rw [if_pos hg]
      rw [Int32.le_iff_toInt_le] at hg
      simp only [Int32.reduceToInt] at hg
      have e : (fun j : Nat => if v1.toNatClampNeg ≤ j ∧ j < 120 then 0 else M 6 j) = M 6 := by
        funext j; rw [if_neg (by omega)]
      rw [e, mset_self]
    · rw [if_neg hg]
      have hn := z_p1 hg
      have hg' := hg
      rw [Int32.le_iff_toInt_le] at hg'
      simp only [Int32.reduceToInt] at hg'
      have hN' := y_N (v := v1 + 1) (by omega)
      rw [ih (v1 + 1) _ (by omega) (by omega)]
      unfold mup
      rw [mset_mset, mset_eq]
      congr 1
      funext j
      unfold upd
      by_cases e : j = v1.toNatClampNeg
      · subst e
        rw [if_neg (by omega), if_pos rfl, if_pos (by omega)]
      · rw [if_neg e]
        by_cases e2 : (v1 + 1).toNatClampNeg ≤ j ∧ j < 120
        · rw [if_pos e2, if_pos (by omega)]
        · rw [if_neg e2, if_neg (by omega)]
theorem u_l17 (x v : Int32) (k : Nat) (M : Mem) (hv : ¬ 2 ≤ v) : l_X4_freeWhatIsNotPointedTo_17 x (k + 1) v M = l_X4_freeWhatIsNotPointedTo_17 x k (v + 1) (f_X0_use (f_X3_placeOf x v M) M) := by
  show b_X4_freeWhatIsNotPointedTo_17 x (l_X4_freeWhatIsNotPointedTo_17 x k) v M = _
  unfold b_X4_freeWhatIsNotPointedTo_17
  rw [if_neg hv]
  rfl
theorem u_l17e (x : Int32) (k : Nat) (M : Mem) : l_X4_freeWhatIsNotPointedTo_17 x (k + 1) 2 M = (2, M) := by
  show b_X4_freeWhatIsNotPointedTo_17 x (l_X4_freeWhatIsNotPointedTo_17 x k) 2 M = _
  unfold b_X4_freeWhatIsNotPointedTo_17
  rw [if_pos (by decide)]
def US (M : Mem) (p : Nat) (M' : Mem) : Prop := (∀ j, j ≠ 6 → M' j = M j) ∧ ∀ c, c < 120 → (M' 6 c = 0 ∨ M' 6 c = 1) ∧ (M' 6 c = 1 ↔ ∃ q, q < p ∧ (M 11 q = nI c ∨ M 12 q = nI c))
theorem US_use {M M' : Mem} {p : Nat} {x : Int32} (h : ∀ c, c < 120 → (M' 6 c = 0 ∨ M' 6 c = 1) ∧ (M' 6 c = 1 ↔ ∃ q, q < p ∧ (M 11 q = nI c ∨ M 12 q = nI c))) : ∀ c, c < 120 → (f_X0_use x M' 6 c = 0 ∨ f_X0_use x M' 6 c = 1) ∧ (f_X0_use x M' 6 c = 1 ↔ (∃ q, q < p ∧ (M 11 q = nI c ∨ M 12 q = nI c)) ∨ x = nI c) := by
  intro c hc
  rw [u_use.2 c hc]
  obtain ⟨h1, h2⟩ := h c hc
  by_cases e : x = nI c
  · rw [if_pos e]; exact ⟨Or.inr rfl, fun _ => Or.inr e, fun _ => rfl⟩
  · rw [if_neg e]; exact ⟨h1, fun q => Or.inl (h2.mp q), fun q => h2.mpr (q.resolve_right e)⟩
theorem r_l9 {M : Mem} : ∀ (k : Nat) (v : Int32) (p : Nat) (M' : Mem), v.toInt = p → p ≤ 53 → 53 - p + 1 ≤ k → US M p M' → US M 53 (l_X4_freeWhatIsNotPointedTo_9 k v M').2 := by
  intro k
  induction k with
  | zero => intro v p _ _ _ h; omega
  | succ k ih =>
    intro v p M' hv hp hk h
    show US M 53 (b_X4_freeWhatIsNotPointedTo_9 (l_X4_freeWhatIsNotPointedTo_9 k) v M').2
    unfold b_X4_freeWhatIsNotPointedTo_9
    by_cases hg : 53 ≤ v
    · rw [if_pos hg]
      rw [Int32.le_iff_toInt_le] at hg
      simp only [Int32.reduceToInt] at hg
      have : p = 53 := by omega
      rw [this] at h
      exact h
    · rw [if_neg hg]
      have hn := z_p1 hg
      rw [Int32.le_iff_toInt_le] at hg
      simp only [Int32.reduceToInt] at hg
      have hr : 0 ≤ v.toInt ∧ v.toInt < 53 := by omega
      have hN : v.toNatClampNeg = p := by have := y_N hr.1; omega
      simp only [zlet]
      rw [u_l17 _ _ 2 _ (by decide), y_01, u_l17 _ _ 1 _ (by decide), y_12', u_l17e, u_pl0 hr, u_pl1 hr, hN]
      have e12 : f_X0_use (M' 11 p) M' 12 p = M 12 p := by rw [u_use.1 12 (by decide), h.1 12 (by decide)]
      rw [e12, h.1 11 (by decide)]
      refine ih (v + 1) (p + 1) (f_X0_use (M 12 p) (f_X0_use (M 11 p) M')) (by omega) (by omega) (by omega) ⟨?_, ?_⟩
      · intro j hj; rw [u_use.1 j hj, u_use.1 j hj, h.1 j hj]
      · intro c hc
        have g := US_use (x := M 11 p) h.2 c hc
        rw [u_use.2 c hc]
        by_cases e : M 12 p = nI c
        · rw [if_pos e]
          exact ⟨Or.inr rfl, fun _ => ⟨p, by omega, Or.inr e⟩, fun _ => rfl⟩
        · rw [if_neg e]
          refine ⟨g.1, ?_⟩
          rw [g.2]
          constructor
          · rintro (⟨q, q1, q2⟩ | q)
            · exact ⟨q, by omega, q2⟩
            · exact ⟨p, by omega, Or.inl q⟩
          · rintro ⟨q, q1, q2⟩
            by_cases eq : q = p
            · rw [eq] at q2; exact Or.inr (q2.resolve_right e)
            · exact Or.inl ⟨q, by omega, q2⟩
theorem r_freeW (M : Mem) : US M 53 (f_X4_freeWhatIsNotPointedTo M) := by
  have e := u_lfa 121 0 M (by decide) (by decide)
  have z0 : ((0 : Int32).toNatClampNeg) = 0 := rfl
  rw [z0] at e
  have eF : f_X4_freeWhatIsNotPointedTo M = (l_X4_freeWhatIsNotPointedTo_9 54 0 (f_X0_freeAll M)).2 := rfl
  have eA : f_X0_freeAll M = (l_X0_freeAll_2 121 0 M).2 := rfl
  rw [eF, eA, e]
  refine r_l9 54 0 0 _ rfl (by omega) (by omega) ⟨fun j hj => mset_ne hj, fun c hc => ?_⟩
  rw [mset_eq, if_pos (by omega)]
  exact ⟨Or.inl rfl, fun q => absurd q (by decide), fun ⟨q, q1, _⟩ => by omega⟩
end
