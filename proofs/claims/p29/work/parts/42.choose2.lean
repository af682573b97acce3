section
theorem zPl_nI {f : Nat → Int32} {k c : Nat} (h : zPl f) (hc : c < 120) : zPl (upd f k (nI c)) := zPl_upd h (by rw [nI_toInt (by omega)]; omega)
theorem zPl_m1 {f : Nat → Int32} {k : Nat} (h : zPl f) : zPl (upd f k (-1)) := zPl_upd h (by decide)
/-- what choosing for p leaves -/
def CO (M0 N0 : Mem) (t p : Nat) (M N : Mem) (a1 : Bool) (a2 : Mem) (b1 : Bool) (b2 : Mem) : Prop :=
  a1 = b1 ∧ FM M0 a2 ∧ FN N0 b2 ∧ b2 16 = upd (N 16) p 1 ∧ (∀ k, k ≠ p → a2 18 k = M 18 k) ∧ (a1 = true → CH M0 (t + 1) a2 b2 ∧ a2 18 p ≠ -1)
theorem r_choose {M0 N0 : Mem} {t : Nat} {p n3 : Int32} {two : Bool} {M N : Mem} (h : CH M0 t M N) (hF : FN N0 N) (hp : 0 ≤ p.toInt ∧ p.toInt < 53) (ht : tau p.toNatClampNeg = t) (h2 : 2 ≤ n3 ↔ two = true) :
    CO M0 N0 t p.toNatClampNeg M N (f_X1_choose p n3 M).1 (f_X1_choose p n3 M).2 (f_X5_tryOut p two N).1 (f_X5_tryOut p two N).2 := by
  have hN := y_pN hp
  have f := h.2.2.2.2.2.1 _ hN (by omega)
  have hTK : TK M (mup N 16 p.toNatClampNeg 1) := TK_same h.1 rfl rfl rfl (by simp [mup, mset])
  have hFM := h.2.1
  unfold f_X1_choose f_X5_tryOut
  rw [if_pos (q_isPointer.mpr hp)]
  simp only [zlet]
  rcases r_take (x := -1) hTK with ⟨k1, k2⟩ | ⟨c, hc, hc0, hc6, _, M1, k1, k2, hT1, hM1⟩
  · rw [k1, k2]
    have e : (mup (mup N 16 p.toNatClampNeg 1) 14 p.toNatClampNeg (-1)) 14 p.toNatClampNeg = -1 := by simp [mup, mset, upd]
    simp only [e, if_true, Bool.false_eq_true, if_false]
    refine ⟨rfl, ?_, ⟨?_, ?_, ?_, ?_⟩, ?_, ?_, fun q => Bool.noConfusion q⟩
    · intro j j1 j2 j3 j4; unfold mup; rw [mset_ne j3]; exact hFM j j1 j2 j3 j4
    · intro j j1 j2 j3 j4 j5; unfold mup; rw [mset_ne j3, mset_ne j5]; exact hF.1 j j1 j2 j3 j4 j5
    · intro i hi; rw [← hF.2.1 i hi]; simp [mup, mset]
    · have : (mup (mup N 16 p.toNatClampNeg 1) 14 p.toNatClampNeg (-1)) 14 = upd (N 14) p.toNatClampNeg (-1) := by simp [mup, mset]
      rw [this]; exact zPl_m1 hF.2.2.1
    · have : (mup (mup N 16 p.toNatClampNeg 1) 14 p.toNatClampNeg (-1)) 15 = N 15 := by simp [mup, mset]
      rw [this]; exact hF.2.2.2
    · simp [mup, mset]
    · intro k hk; simp [mup, mset, upd, hk]
  · have hc0' : N 12 c = 0 := by rw [← hc0]; simp [mup, mset]
    have hc6' : M0 6 c = 0 := by rw [← hFM 6 (by decide) (by decide) (by decide) (by decide)]; exact hc6
    have hne := nI_neg hc
    have n12 : (mup (mup (mup N 16 p.toNatClampNeg 1) 12 c 1) 0 19 ((mup N 16 p.toNatClampNeg 1) 0 19 + 1)) 12 = upd (N 12) c 1 := by simp [mup, mset]
    have n14 : (mup (mup (mup N 16 p.toNatClampNeg 1) 12 c 1) 0 19 ((mup N 16 p.toNatClampNeg 1) 0 19 + 1)) 14 = N 14 := by simp [mup, mset]
    have n15 : (mup (mup (mup N 16 p.toNatClampNeg 1) 12 c 1) 0 19 ((mup N 16 p.toNatClampNeg 1) 0 19 + 1)) 15 = N 15 := by simp [mup, mset]
    have n16 : (mup (mup (mup N 16 p.toNatClampNeg 1) 12 c 1) 0 19 ((mup N 16 p.toNatClampNeg 1) 0 19 + 1)) 16 = upd (N 16) p.toNatClampNeg 1 := by simp [mup, mset]
    have n019 : (mup (mup (mup N 16 p.toNatClampNeg 1) 12 c 1) 0 19 ((mup N 16 p.toNatClampNeg 1) 0 19 + 1)) 0 19 = N 0 19 + 1 := by simp [mup, mset, upd]
    have n0 : ∀ i, i ≠ 19 → (mup (mup (mup N 16 p.toNatClampNeg 1) 12 c 1) 0 19 ((mup N 16 p.toNatClampNeg 1) 0 19 + 1)) 0 i = N 0 i := by intro i hi; simp [mup, mset, upd, hi]
    have nj : ∀ j, j ≠ 0 → j ≠ 12 → j ≠ 16 → (mup (mup (mup N 16 p.toNatClampNeg 1) 12 c 1) 0 19 ((mup N 16 p.toNatClampNeg 1) 0 19 + 1)) j = N j := by intro j j1 j2 j3; unfold mup; rw [mset_ne j1, mset_ne j2, mset_ne j3]
    rw [k1, k2]
    revert hT1 n12 n14 n15 n16 n019 n0 nj
    generalize (mup (mup (mup N 16 p.toNatClampNeg 1) 12 c 1) 0 19 ((mup N 16 p.toNatClampNeg 1) 0 19 + 1)) = N1
    intro hT1 n12 n14 n15 n16 n019 n0 nj
    have hC1 := CH_first h hN ht hc hc0' hc6' hT1 hM1 n12 n14 n15 n019
    have e : (mup N1 14 p.toNatClampNeg (nI c)) 14 p.toNatClampNeg = nI c := by simp [mup, mset, upd]
    have hF1 : FN N0 (mup N1 14 p.toNatClampNeg (nI c)) := by
      refine ⟨?_, ?_, ?_, ?_⟩
      · intro j j1 j2 j3 j4 j5; unfold mup; rw [mset_ne j3, nj j j1 j2 j5]; exact hF.1 j j1 j2 j3 j4 j5
      · intro i hi; rw [← hF.2.1 i hi, ← n0 i hi]; simp [mup, mset]
      · have : (mup N1 14 p.toNatClampNeg (nI c)) 14 = upd (N1 14) p.toNatClampNeg (nI c) := by simp [mup, mset]
        rw [this, n14]; exact zPl_nI hF.2.2.1 hc
      · have : (mup N1 14 p.toNatClampNeg (nI c)) 15 = N1 15 := by simp [mup, mset]
        rw [this, n15]; exact hF.2.2.2
    have h18 : (mup M1 18 p.toNatClampNeg (nI c)) 18 p.toNatClampNeg = nI c := by simp [mup, mset, upd]
    have h18k : ∀ k, k ≠ p.toNatClampNeg → (mup M1 18 p.toNatClampNeg (nI c)) 18 k = M 18 k := by
      intro k hk; rw [← hM1 18 (by decide) (by decide)]; simp [mup, mset, upd, hk]
    have h16 : (mup N1 14 p.toNatClampNeg (nI c)) 16 = upd (N 16) p.toNatClampNeg 1 := by rw [← n16]; simp [mup, mset]
    have h19 : (mup M1 18 p.toNatClampNeg (nI c)) 19 p.toNatClampNeg = -1 := by
      rw [← f.2, ← hM1 19 (by decide) (by decide)]; simp [mup, mset]
    simp only [e, hne, if_false, if_true]
    by_cases e2 : 2 ≤ n3
    · rw [if_pos e2, h2.mp e2]
      simp only [if_true]
      unfold f_X4_mirrorOf
      revert hC1 hF1 h18 h18k h16 h19
      generalize (mup M1 18 p.toNatClampNeg (nI c)) = Ma
      generalize (mup N1 14 p.toNatClampNeg (nI c)) = Na
      intro hC1 hF1 h18 h18k h16 h19
      rcases r_take (x := nI c / 40) hC1.1 with ⟨k1, k2⟩ | ⟨d, hd, hd0, hd6, hdx, M2, k1, k2, hT2, hM2⟩
      · rw [k1, k2]
        have g1 : (mup Ma 19 p.toNatClampNeg (-1)) 19 p.toNatClampNeg = -1 := by simp [mup, mset, upd]
        have g2 : (mup Na 15 p.toNatClampNeg (-1)) 15 p.toNatClampNeg = -1 := by simp [mup, mset, upd]
        simp only [g1, g2, if_true]
        refine ⟨rfl, ?_, ⟨?_, ?_, ?_, ?_⟩, ?_, ?_, fun q => Bool.noConfusion q⟩
        · intro j j1 j2 j3 j4; unfold mup; rw [mset_ne j4]; exact hC1.2.1 j j1 j2 j3 j4
        · intro j j1 j2 j3 j4 j5; unfold mup; rw [mset_ne j4]; exact hF1.1 j j1 j2 j3 j4 j5
        · intro i hi; rw [← hF1.2.1 i hi]; simp [mup, mset]
        · have : (mup Na 15 p.toNatClampNeg (-1)) 14 = Na 14 := by simp [mup, mset]
          rw [this]; exact hF1.2.2.1
        · have : (mup Na 15 p.toNatClampNeg (-1)) 15 = upd (Na 15) p.toNatClampNeg (-1) := by simp [mup, mset]
          rw [this]; exact zPl_m1 hF1.2.2.2
        · rw [← h16]; simp [mup, mset]
        · intro k hk; rw [← h18k k hk]; simp [mup, mset]
      · have hd6' : M0 6 d = 0 := by rw [← hC1.2.1 6 (by decide) (by decide) (by decide) (by decide)]; exact hd6
        have n12 : (mup (mup Na 12 d 1) 0 19 (Na 0 19 + 1)) 12 = upd (Na 12) d 1 := by simp [mup, mset]
        have n14 : (mup (mup Na 12 d 1) 0 19 (Na 0 19 + 1)) 14 = Na 14 := by simp [mup, mset]
        have n15 : (mup (mup Na 12 d 1) 0 19 (Na 0 19 + 1)) 15 = Na 15 := by simp [mup, mset]
        have n019 : (mup (mup Na 12 d 1) 0 19 (Na 0 19 + 1)) 0 19 = Na 0 19 + 1 := by simp [mup, mset, upd]
        have n0 : ∀ i, i ≠ 19 → (mup (mup Na 12 d 1) 0 19 (Na 0 19 + 1)) 0 i = Na 0 i := by intro i hi; simp [mup, mset, upd, hi]
        have n16 : (mup (mup Na 12 d 1) 0 19 (Na 0 19 + 1)) 16 = Na 16 := by simp [mup, mset]
        have nj : ∀ j, j ≠ 0 → j ≠ 12 → (mup (mup Na 12 d 1) 0 19 (Na 0 19 + 1)) j = Na j := by intro j j1 j2; unfold mup; rw [mset_ne j1, mset_ne j2]
        have hC2 := CH_second hC1 hN ht hd hd0 hd6' (by rw [h18]; exact hne) h19 (by rw [h18]; exact hdx) hT2 hM2 n12 n14 n15 n019
        rw [k1, k2]
        have hne2 := nI_neg hd
        revert hC2 n12 n14 n15 n019 n0 n16 nj
        generalize (mup (mup Na 12 d 1) 0 19 (Na 0 19 + 1)) = N2
        intro n12 n14 n15 n019 n0 n16 nj hC2
        have g1 : (mup M2 19 p.toNatClampNeg (nI d)) 19 p.toNatClampNeg = nI d := by simp [mup, mset, upd]
        have g2 : (mup N2 15 p.toNatClampNeg (nI d)) 15 p.toNatClampNeg = nI d := by simp [mup, mset, upd]
        simp only [g1, g2, hne2, if_false]
        refine ⟨rfl, hC2.2.1, ⟨?_, ?_, ?_, ?_⟩, ?_, ?_, fun _ => ⟨hC2, ?_⟩⟩
        · intro j j1 j2 j3 j4 j5; unfold mup; rw [mset_ne j4, nj j j1 j2]; exact hF1.1 j j1 j2 j3 j4 j5
        · intro i hi; rw [← hF1.2.1 i hi, ← n0 i hi]; simp [mup, mset]
        · have : (mup N2 15 p.toNatClampNeg (nI d)) 14 = N2 14 := by simp [mup, mset]
          rw [this, n14]; exact hF1.2.2.1
        · have : (mup N2 15 p.toNatClampNeg (nI d)) 15 = upd (N2 15) p.toNatClampNeg (nI d) := by simp [mup, mset]
          rw [this, n15]; exact zPl_nI hF1.2.2.2 hd
        · rw [← h16, ← n16]; simp [mup, mset]
        · intro k hk; rw [← h18k k hk, ← hM2 18 (by decide) (by decide)]; simp [mup, mset]
        · have : (mup M2 19 p.toNatClampNeg (nI d)) 18 = Ma 18 := by rw [← hM2 18 (by decide) (by decide)]; simp [mup, mset]
          rw [this, h18]; exact hne
    · rw [if_neg e2]
      have ef : two = false := by
        cases two with
        | true => exact absurd (h2.mpr rfl) e2
        | false => rfl
      rw [ef]
      simp only [Bool.false_eq_true, if_false]
      exact ⟨rfl, hC1.2.1, hF1, h16, h18k, fun _ => ⟨hC1, by rw [h18]; exact hne⟩⟩
end
