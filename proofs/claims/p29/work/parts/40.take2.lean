section
theorem TK_up {M N : Mem} {b c1 : Nat} {w r : Int32} {y : Int32} (h : TK M N) (hb : b < 3) (hc : c1 < 40) (h0 : N 12 (40 * b + c1) = 0) (hw : w.toInt = c1 + 1) (hr : r.toInt = (M 16 b).toInt - 1)
    (hf : ∀ j : Nat, (M 17 b).toInt ≤ j → j < c1 → M 6 (40 * b + j) ≠ 0) : TK (mup (mup M 17 b w) 16 b r) (mup (mup N 12 (40 * b + c1) 1) 0 19 y) := by
  intro m hm
  have e12 : (mup (mup N 12 (40 * b + c1) 1) 0 19 y) 12 = upd (N 12) (40 * b + c1) 1 := by simp [mup, mset]
  have e16 : (mup (mup M 17 b w) 16 b r) 16 = upd (M 16) b r := by simp [mup, mset]
  have e17 : (mup (mup M 17 b w) 16 b r) 17 = upd (M 17) b w := by simp [mup, mset]
  have e6 : (mup (mup M 17 b w) 16 b r) 6 = M 6 := by simp [mup, mset]
  rw [e12, e16, e17, e6]
  obtain ⟨t1, t2, t3⟩ := h m hm
  by_cases e : m = b
  · subst e
    have g := cn_us (f := N 12) (a := 40 * m) (c := 40 * m + c1) 40 (by omega) h0
    have hge : (M 17 m).toInt ≤ c1 := by
      rcases Int.lt_or_le c1 (M 17 m).toInt with q | q
      · exact absurd h0 ((t3 c1 hc).1 q)
      · exact q
    rw [pk_us, pk_us]
    refine ⟨by omega, by omega, fun c hc' => ⟨fun q => ?_, fun q => ?_⟩⟩
    · by_cases ec : c = c1
      · rw [ec, pk_us]; decide
      · rw [pk_un (by omega)]
        rcases Int.lt_or_le c (M 17 m).toInt with q1 | q1
        · exact (t3 c hc').1 q1
        · rw [(t3 c hc').2 q1]; exact hf c q1 (by omega)
    · rw [pk_un (by omega)]
      exact (t3 c hc').2 (by omega)
  · rw [pk_un e, pk_un e, cn_un 40 (by omega)]
    refine ⟨t1, t2, fun c hc' => ?_⟩
    rw [pk_un (by omega)]
    exact t3 c hc'
theorem r_take {x : Int32} {M N : Mem} (h : TK M N) :
    (f_X1_takeBeside x M = (-1, M) ∧ f_X5_take x N = (-1, N)) ∨
    ∃ c : Nat, c < 120 ∧ N 12 c = 0 ∧ M 6 c = 0 ∧ ¬ nI c / 40 = x ∧ ∃ M', f_X1_takeBeside x M = (nI c, M') ∧ f_X5_take x N = (nI c, mup (mup N 12 c 1) 0 19 (N 0 19 + 1)) ∧ TK M' (mup (mup N 12 c 1) 0 19 (N 0 19 + 1)) ∧ ∀ j, j ≠ 16 → j ≠ 17 → M' j = M j := by
  have hB := r_lbest (x := x) h 4 0 (-1) 0 (-1) (by decide) (by decide) (by decide) (Or.inl ⟨rfl, rfl, Or.inl ⟨rfl, Or.inl rfl⟩⟩)
  unfold f_X1_takeBeside f_X5_take
  simp only [zlet]
  rw [show f_X1_roomiestBeside x M = (l_X1_roomiestBeside_7 x M 4 (-1) 0 0).1 from rfl]
  revert hB
  generalize (l_X1_roomiestBeside_7 x M 4 (-1) 0 0).1 = v
  generalize (l_X1_roomiestBeside_7 x M 4 (-1) 0 0).2.1 = r
  generalize (l_X5_take_4 x N 4 (-1) 0).1 = b
  intro hB
  have hfu (hb : 0 ≤ b.toInt ∧ b.toInt < 3) : ((40 * b + 40 : Int32).toInt - (40 * b : Int32).toInt).toNat + 1 = 41 := by
    have e40 := z40 hb (b := 40) (by decide)
    simp only [Int32.reduceToInt] at e40
    rw [e40, z40' hb]; omega
  rcases hB with ⟨_, rfl, ⟨_, b2⟩ | ⟨hb, b2⟩⟩ | ⟨hr, rfl, hb, hbx, b2⟩
  · simp only [Int32.reduceToInt] at b2; omega
  · left
    refine ⟨?_, ?_⟩
    · rw [if_neg (by rw [q_isMirror]; decide)]
    · rw [hfu hb]
      rcases v_lfind (N := N) hb 41 (40 * b) 0 (by rw [z40' hb]; omega) (by omega) (by omega) with ⟨q, _⟩ | ⟨c, _, _, q1, _, q2⟩
      · rw [q, if_pos rfl]
      · exact absurd b2 ((cn_pos 40).mpr ⟨c, q1, q2⟩)
  · right
    have hbN : v.toNatClampNeg < 3 := by simp only [Int32.toNatClampNeg]; omega
    have hvN := y_N hb.1
    obtain ⟨t1, t2, t3⟩ := h _ hbN
    obtain ⟨i, hi, hi0⟩ := (cn_pos (f := N 12) (a := 40 * v.toNatClampNeg) 40).mp (by omega)
    have hin : (M 17 v.toNatClampNeg).toInt ≤ i := by
      rcases Int.lt_or_le i (M 17 v.toNatClampNeg).toInt with q | q
      · exact absurd hi0 ((t3 i hi).1 q)
      · exact q
    have hi6 : M 6 (40 * v.toNatClampNeg + i) = 0 := by rw [← (t3 i hi).2 hin]; exact hi0
    obtain ⟨c1, f1, f2, f3, f4, f5⟩ := u_lfind (M := M) hb (((40 : Int32).toInt - (M 17 v.toNatClampNeg).toInt).toNat + 1) (M 17 v.toNatClampNeg) t2.1 t2.2 (by simp only [Int32.reduceToInt]; omega)
    have hc1 : c1 < 40 := by
      rcases Nat.lt_or_ge c1 40 with q | q
      · exact q
      · exact absurd hi6 (f4 i hin (by omega))
    have h60 := f5 hc1
    have h120 : N 12 (40 * v.toNatClampNeg + c1) = 0 := by rw [(t3 c1 hc1).2 f2]; exact h60
    have hpl : f_X4_placeNumber v (nI c1) = nI (40 * v.toNatClampNeg + c1) := by
      rw [y_pl]
      refine Int32.toInt_inj.mp ?_
      rw [z40 hb (by rw [nI_toInt (by omega)]; omega), nI_toInt (by omega), nI_toInt (by omega)]; omega
    have hr1 : (M 16 v.toNatClampNeg - 1).toInt = (M 16 v.toNatClampNeg).toInt - 1 := by
      have := cn_le (N 12) (40 * v.toNatClampNeg) 40
      rw [Int32.toInt_sub, Int.bmod_eq_of_le] <;> simp <;> omega
    refine ⟨40 * v.toNatClampNeg + c1, by omega, h120, h60, ?_, _, ?_, ?_, TK_up (w := nI c1 + 1) (r := M 16 v.toNatClampNeg - 1) h hbN hc1 h120 ?_ hr1 f4, ?_⟩
    · intro q
      refine hbx ?_
      rw [← q]
      refine Int32.toInt_inj.mp ?_
      rw [z_d40 (by rw [nI_toInt (by omega)]; omega), nI_toInt (by omega)]; omega
    · rw [if_pos (q_isMirror.mpr hb), f1, if_pos (q_isCell.mpr (by rw [nI_toInt (by omega)]; omega)), hpl]
      have : (mup M 17 v.toNatClampNeg (nI c1 + 1)) 16 = M 16 := by simp [mup, mset]
      rw [this]
    · rw [hfu hb]
      rcases v_lfind (N := N) hb 41 (40 * v) 0 (by rw [z40' hb]; omega) (by omega) (by omega) with ⟨_, q⟩ | ⟨c2, q1, _, q2, q3, q4⟩
      · exact absurd h120 (q c1 (by omega) hc1)
      · have e : c2 = c1 := by
          rcases Nat.lt_trichotomy c1 c2 with q | q | q
          · exact absurd h120 (q3 c1 (by omega) q)
          · exact q.symm
          · have g : (M 17 v.toNatClampNeg).toInt ≤ c2 := by
              rcases Int.lt_or_le c2 (M 17 v.toNatClampNeg).toInt with w | w
              · exact absurd q4 ((t3 c2 q2).1 w)
              · exact w
            exact absurd (by rw [← (t3 c2 q2).2 g]; exact q4) (f4 c2 g q)
        rw [q1, e, if_neg (y_ne1 (by rw [nI_toInt (by omega)]; omega)), nI_clamp (by omega)]
        have : (mup N 12 (40 * v.toNatClampNeg + c1) 1) 0 = N 0 := by simp [mup, mset]
        rw [this]
    · rw [nI_1, nI_toInt (by omega)]; omega
    · intro j h1 h2
      unfold mup
      rw [mset_ne h1, mset_ne h2]
end
