section
theorem r_sync0 {n : Int} {M0 N0 : Mem} (h : zRI n 0 M0 N0) (hn : n + 1 < 2 ^ 31) (hc : ¬ ∃ f : Nat, f < 4 ∧ ch M0 f) : zRI (n + 1) 0 (f_X4_sync M0).2 (f_X5_sync N0).2 ∧ qA c1E id (f_X4_sync M0).1 (f_X5_sync N0) := by
  obtain ⟨r1, M1, hC, hF, hW, hG, hGF, h52⟩ := r_tries0 h hc
  have eC : f_X4_sync M0 = (.inl 0, f_X2_close M0) := by
    unfold f_X4_sync; rw [if_pos (u_count0.mpr hc)]; rfl
  rw [eC, v_syncS r1]
  revert hC hF hG hGF h52
  generalize (f_X5_tries N0).2 = N1
  intro hC hF hG hGF h52
  obtain ⟨b1, b2, b3, b4, b5⟩ := v_nb N1
  have m15 : ∀ k, k < 48 → M0 15 k = -1 := by
    intro k hk
    by_cases q : M0 15 k = -1
    · exact q
    · exact absurd ⟨k / 12, by omega, k % 12, by omega, by rw [show 12 * (k / 12) + k % 12 = k by omega]; exact q⟩ hc
  have n16 : ∀ p, p < 53 → N1 16 p = 0 := by
    intro p hp
    by_cases p48 : p < 48
    · have ht : tau p < 52 := by unfold tau; rw [if_pos p48]; omega
      rw [(hG p p48).1 ht, if_pos (m15 p p48)]
    · by_cases p52 : p < 52
      · have := ((hGF (p - 48) (by omega)).1 (by omega)).2 (fun q => hc ⟨p - 48, by omega, q⟩)
        rw [show 48 + (p - 48) = p by omega] at this
        exact this
      · rw [show p = 52 by omega]; exact h52
  have m18 : ∀ p, p < 53 → M1 18 p = -1 ∧ M1 19 p = -1 := by
    intro p hp
    have e18 : M1 18 p = -1 := by
      by_cases q : M1 18 p = -1
      · exact q
      · by_cases ht : tau p < 52
        · have w := (hW p hp ht).mp q
          unfold want at w
          by_cases p48 : p < 48
          · rw [if_pos p48] at w; exact absurd (m15 p p48) w.1
          · rw [if_neg p48] at w
            by_cases p52 : p < 52
            · rw [if_pos p52] at w; exact absurd ⟨p - 48, by omega, w.1⟩ hc
            · rw [show p = 52 by omega] at ht; exact absurd ht (by decide)
        · exact absurd (hC.2.2.2.2.2.1 p hp (by omega)).1 q
    refine ⟨e18, ?_⟩
    by_cases q : M1 19 p = -1
    · exact q
    · exact absurd e18 (hC.2.2.2.2.2.2.2.2.1 p hp q).1
  have e76 : (l_X5_sync_76 54 0 (nb N1)).2 = nb N1 := v_l76no 54 0 (nb N1) (by decide) (fun p hp => by rw [b1 16 (by decide) (by decide) (by decide) (by decide)]; exact n16 p hp)
  rw [e76]
  have e208 := v_l208 121 0 (nb N1) (by decide) (by decide)
  have z0 : ((0 : Int32).toNatClampNeg) = 0 := rfl
  rw [z0] at e208
  have u8 : ∀ c, c < 120 → (l_X5_sync_208 121 0 (nb N1)).2 8 c = M0 6 c := by
    intro c hc
    rw [e208, mset_eq, if_pos (by omega), b1 12 (by decide) (by decide) (by decide) (by decide), b5 c hc, if_neg (show ¬ ¬ (0 : Int32) = 0 from fun q => q rfl)]
    have g := hC.2.2.2.2.1 c hc
    rcases h.2.2.1 c hc with q | ⟨q, _⟩
    · rw [q]
      by_cases w : N1 12 c = 0
      · rw [if_pos w]
      · rcases g.mp w with w2 | ⟨p, hp, w2⟩
        · rw [q] at w2; exact absurd w2 (by decide)
        · rw [(m18 p hp).1, (m18 p hp).2] at w2
          rcases w2 with w2 | w2 <;> exact absurd w2.symm (nI_neg hc)
    · rw [q, if_neg (g.mpr (Or.inl q))]
  have uj : ∀ j, j ≠ 8 → (l_X5_sync_208 121 0 (nb N1)).2 j = nb N1 j := fun j hj => by rw [e208, mset_ne hj]
  revert u8 uj
  generalize (l_X5_sync_208 121 0 (nb N1)).2 = N7
  intro u8 uj
  simp only [zlet]
  obtain ⟨c1, c2, c3⟩ := u_close M0
  have hz := zR_FN h.1 hF
  obtain ⟨h1, h2, h3, h4, h5, h6, h7, h8, h9, h10, h11, h12, h13⟩ := hz
  have w : ∀ j, j ≠ 0 → j ≠ 2 → j ≠ 3 → j ≠ 8 → j ≠ 13 → (mup N7 0 1 (N7 0 1 + 1)) j = N1 j := by
    intro j j0 j2 j3 j8 j13; unfold mup; rw [mset_ne j0, uj j j8, b1 j j0 j2 j3 j13]
  have n7 : ∀ i, i ≠ 0 → N7 0 i = N1 0 i := by intro i hi; rw [uj 0 (by decide), b2, if_neg hi]
  refine ⟨⟨⟨?_, ?_, ?_, ?_, ?_, ?_, ?_, ?_, ?_, ?_, ?_, ?_, ?_⟩, zI_close h.2 hn⟩, ?_, ?_⟩
  · intro k hk
    rw [c2 k hk, show (mup N7 0 1 (N7 0 1 + 1)) 3 = N7 3 by simp [mup, mset], uj 3 (by decide), b4 k hk]
  · intro k hk
    rw [c1 10 (by decide) (by decide), show (mup N7 0 1 (N7 0 1 + 1)) 2 = N7 2 by simp [mup, mset], uj 2 (by decide), b3 k hk, ← h1 k hk, m15 k hk, if_pos rfl]
    exact h2 k hk
  · rw [c1 11 (by decide) (by decide), w 4 (by decide) (by decide) (by decide) (by decide) (by decide)]; exact h3
  · rw [c1 12 (by decide) (by decide), w 5 (by decide) (by decide) (by decide) (by decide) (by decide)]; exact h4
  · rw [c1 13 (by decide) (by decide), w 7 (by decide) (by decide) (by decide) (by decide) (by decide)]; exact h5
  · rw [c1 14 (by decide) (by decide), w 6 (by decide) (by decide) (by decide) (by decide) (by decide)]; exact h6
  · rw [c1 5 (by decide) (by decide), w 1 (by decide) (by decide) (by decide) (by decide) (by decide)]; exact h7
  · intro c hc
    rw [c1 6 (by decide) (by decide), show (mup N7 0 1 (N7 0 1 + 1)) 8 = N7 8 by simp [mup, mset], u8 c hc]
  · rw [c1 7 (by decide) (by decide), w 9 (by decide) (by decide) (by decide) (by decide) (by decide)]; exact h9
  · rw [c1 8 (by decide) (by decide), w 10 (by decide) (by decide) (by decide) (by decide) (by decide)]; exact h10
  · rw [c1 9 (by decide) (by decide), w 11 (by decide) (by decide) (by decide) (by decide) (by decide)]; exact h11
  · rw [c3, h12, ← n7 1 (by decide)]; simp [mup, mset, upd]
  · rw [c1 0 (by decide) (by decide), h13, ← n7 2 (by decide)]; simp [mup, mset, upd]
  · show (mup N7 0 1 (N7 0 1 + 1)) 0 19 = 0
    have e : (mup N7 0 1 (N7 0 1 + 1)) 0 19 = N7 0 19 := by simp [mup, mset, upd]
    rw [e, n7 19 (by decide), hC.2.2.2.2.2.2.2.2.2, sm_0 53 (fun p hp => by unfold cw; rw [if_pos (m18 p hp).1])]
  · show (mup N7 0 1 (N7 0 1 + 1)) 0 0 = 0
    have e : (mup N7 0 1 (N7 0 1 + 1)) 0 0 = N7 0 0 := by simp [mup, mset, upd]
    rw [e, uj 0 (by decide), b2, if_pos rfl]
end
