section
theorem SN_b {M1 Nb N : Mem} {i q : Nat} (h : SN M1 Nb (fun q => nw M1 q = true ∧ q < i) N) (hq : q < 48) (hi : q < i) : N 7 q = b13 M1 q ∧ N 6 q = b14 M1 q := by
  obtain ⟨k1, k2⟩ := h.2.1 q (by omega)
  have ec : cC M1 q = cB M1 q := by unfold cC; rw [if_pos hq]
  unfold b13 b14
  by_cases w : nw M1 q = true
  · rw [if_pos w, if_pos w, ← ec]
    have g := (k1 ⟨w, hi⟩).2.2
    exact ⟨g.2, g.1⟩
  · rw [if_neg w, if_neg w]
    have g := (k2 (fun r => w r.1)).2.2
    exact ⟨g.2, g.1⟩
theorem SN_f {M1 Nb N : Mem} {i q : Nat} (h : SN M1 Nb (fun q => nw M1 q = true ∧ q < i) N) (hq : 48 ≤ q ∧ q < 52) (hi : q < i) : N 7 q = f13 M1 q ∧ N 6 q = b14 M1 q := by
  obtain ⟨k1, k2⟩ := h.2.1 q (by omega)
  have ec : cC M1 q = ns (b13 M1) (b14 M1) (12 * (q - 48)) 12 := by unfold cC; rw [if_neg (by omega), if_pos (by omega)]
  unfold f13 b14
  by_cases w : nw M1 q = true
  · rw [if_pos w, if_pos w]
    have g := (k1 ⟨w, hi⟩).2.2
    rw [ec] at g
    exact ⟨g.2, g.1⟩
  · rw [if_neg w, if_neg w]
    have g := (k2 (fun r => w r.1)).2.2
    exact ⟨g.2, g.1⟩
theorem r_l76 {M1 Nb : Mem} (hB : NB M1 Nb) (h16 : ∀ q, q < 53 → (¬ Nb 16 q = 0 ↔ nw M1 q = true)) (h2 : ∀ q, q < 48 → nw M1 q = true → Nb 2 q = M1 15 q) : ∀ (k : Nat) (v : Int32) (i : Nat) (N : Mem), v.toInt = i → i ≤ 53 → 53 - i + 1 ≤ k →
    SN M1 Nb (fun q => nw M1 q = true ∧ q < i) N → SN M1 Nb (fun q => nw M1 q = true ∧ q < 53) (l_X5_sync_76 k v N).2 := by
  intro k
  induction k with
  | zero => intro v i _ _ _ h; omega
  | succ k ih =>
    intro v i N hv hi hk h
    show SN M1 Nb (fun q => nw M1 q = true ∧ q < 53) (b_X5_sync_76 (l_X5_sync_76 k) v N).2
    by_cases hg : 53 ≤ v
    · unfold b_X5_sync_76
      rw [if_pos hg]
      rw [Int32.le_iff_toInt_le] at hg
      simp only [Int32.reduceToInt] at hg
      have : i = 53 := by omega
      rw [this] at h
      exact h
    · have hn := z_p1 hg
      have hg' := hg
      rw [Int32.le_iff_toInt_le] at hg'
      simp only [Int32.reduceToInt] at hg'
      have hp : i < 53 := by omega
      have hN : v.toNatClampNeg = i := by have := y_N (v := v) (by omega); omega
      have e16 : N 16 = Nb 16 := h.1 16 (by decide) (by decide) (by decide) (by decide) (by decide) (by decide)
      by_cases hw : nw M1 i = true
      · obtain ⟨N', r1, r2⟩ := SN_at (rec := l_X5_sync_76 k) hB h hN hp hg (by rw [e16]; exact (h16 i hp).mpr hw) (fun r => absurd r.2 (by omega)) (by
          intro X x2 x7 x6 _
          unfold f_X5_sumOf
          by_cases g48 : 48 ≤ v
          · rw [if_pos g48]
            rw [Int32.le_iff_toInt_le] at g48
            simp only [Int32.reduceToInt] at g48
            by_cases g52 : v = 52
            · have ei : i = 52 := by rw [g52] at hv; simp only [Int32.reduceToInt] at hv; omega
              rw [if_neg (fun r => r g52), v_ns (a := 48) (n := 4) (by decide) (by decide) (by omega), x7]
              unfold cC
              rw [if_neg (by omega), if_neg (by omega)]
              refine ns_congr 4 (fun j hj => ?_)
              rw [x6 _ (by omega)]
              exact SN_f h (by omega) (by omega)
            · have ei : i ≠ 52 := fun r => g52 (Int32.toInt_inj.mp (by simp only [Int32.reduceToInt]; omega))
              have es : (v - 48).toInt = v.toInt - 48 := by rw [Int32.toInt_sub, Int.bmod_eq_of_le] <;> simp <;> omega
              have e12 := z12' (a := v - 48) (by rw [es]; omega)
              rw [if_pos g52, v_ns (a := 12 * (i - 48)) (n := 12) (by rw [e12, es]; omega) (by decide) (by omega), x7]
              unfold cC
              rw [if_neg (by omega), if_pos (by omega)]
              refine ns_congr 12 (fun j hj => ?_)
              rw [x6 _ (by omega)]
              exact SN_b h (by omega) (by omega)
          · rw [if_neg g48, hN, x2]
            rw [Int32.le_iff_toInt_le] at g48
            simp only [Int32.reduceToInt] at g48
            rw [h2 i (by omega) hw]
            unfold cC
            rw [if_pos (by omega)]
            rfl)
        rw [r1]
        refine ih (v + 1) (i + 1) N' (by omega) (by omega) (by omega) (SN_congr r2 (fun q _ => ?_))
        constructor
        · rintro (⟨w1, w2⟩ | w)
          · exact ⟨w1, by omega⟩
          · rw [w]; exact ⟨hw, by omega⟩
        · rintro ⟨w1, w2⟩
          by_cases e : q = i
          · exact Or.inr e
          · exact Or.inl ⟨w1, by omega⟩
      · have e0 : N 16 i = 0 := by
          rw [e16]
          by_cases w : Nb 16 i = 0
          · exact w
          · exact absurd ((h16 i hp).mp w) hw
        unfold b_X5_sync_76
        rw [if_neg hg, hN, if_pos e0]
        refine ih (v + 1) (i + 1) N (by omega) (by omega) (by omega) (SN_congr h (fun q _ => ?_))
        constructor
        · rintro ⟨w1, w2⟩; exact ⟨w1, by omega⟩
        · rintro ⟨w1, w2⟩
          by_cases e : q = i
          · rw [e] at w1; exact absurd w1 hw
          · exact ⟨w1, by omega⟩
end
