section
/-! ===== PURE, sync: something is buffered, and there is room ===== -/
theorem r_pre {n : Int} {M0 N0 M1 N1 : Mem} (h : zRI n 0 M0 N0) (hT : TS M0 N0 53 1 M1 N1) : CV M1 ∧ NB M1 (nb N1) ∧ (∀ q, q < 53 → (¬ nb N1 16 q = 0 ↔ nw M1 q = true)) ∧ (∀ q, q < 48 → nw M1 q = true → nb N1 2 q = M1 15 q) ∧ SN M1 (nb N1) (fun q => nw M1 q = true ∧ q < 0) (nb N1) := by
  obtain ⟨hC, hFN, hW, hG, hGF, h52⟩ := hT
  obtain ⟨_, hF, c3, _, _, _, c7, _, c9, _⟩ := hC
  obtain ⟨b1, b2, b3, b4, b5⟩ := v_nb N1
  obtain ⟨h1, h2, h3, h4, h5, h6, h7, h8, h9, h10, h11, h12, h13⟩ := zR_FN h.1 hFN
  have i1 := h.2.1
  have f3 : M1 3 = M0 3 := hF 3 (by decide) (by decide) (by decide) (by decide)
  have f6 : M1 6 = M0 6 := hF 6 (by decide) (by decide) (by decide) (by decide)
  have f7 : M1 7 = M0 7 := hF 7 (by decide) (by decide) (by decide) (by decide)
  have f8 : M1 8 = M0 8 := hF 8 (by decide) (by decide) (by decide) (by decide)
  have f11 : M1 11 = M0 11 := hF 11 (by decide) (by decide) (by decide) (by decide)
  have f12 : M1 12 = M0 12 := hF 12 (by decide) (by decide) (by decide) (by decide)
  have f13 : M1 13 = M0 13 := hF 13 (by decide) (by decide) (by decide) (by decide)
  have f14 : M1 14 = M0 14 := hF 14 (by decide) (by decide) (by decide) (by decide)
  have f15 : M1 15 = M0 15 := hF 15 (by decide) (by decide) (by decide) (by decide)
  refine ⟨?_, ⟨?_, ?_, ?_, ?_⟩, ?_, ?_, ⟨fun _ _ _ _ _ _ _ => rfl, ?_, ?_, ?_⟩⟩
  · intro p hp
    obtain ⟨v1, v2⟩ := c7 p hp
    unfold cV at *
    rw [f6]
    exact ⟨⟨v1, v2⟩, fun q => (c9 p hp q).1⟩
  · intro p hp
    rw [b1 14 (by decide) (by decide) (by decide) (by decide), b1 15 (by decide) (by decide) (by decide) (by decide)]
    exact ⟨(c3 p hp).1.symm, (c3 p hp).2.symm⟩
  · intro k hk
    rw [b1 10 (by decide) (by decide) (by decide) (by decide), f8]
    exact (h10 k hk).symm
  · rw [b2, if_neg (by decide), f3]; exact h12.symm
  · intro p hp
    rw [f11, f12]
    exact ⟨⟨cP_V (c7 p hp).1, cP_V (c7 p hp).2⟩, cP_U (i1 p hp).1, cP_U (i1 p hp).2⟩
  · intro q hq
    rw [b1 16 (by decide) (by decide) (by decide) (by decide)]
    by_cases p48 : q < 48
    · rw [nw_b hF p48, (hG q p48).1 (tau_lt hq)]
      by_cases w : M0 15 q = -1
      · rw [if_pos w]; exact ⟨fun r => absurd rfl r, fun r => absurd w r⟩
      · rw [if_neg w]; exact ⟨fun _ => w, fun _ => by decide⟩
    · by_cases p52 : q < 52
      · obtain ⟨f, hf⟩ : ∃ f, q = 48 + f := ⟨q - 48, by omega⟩
        subst hf
        obtain ⟨g1, g2⟩ := (hGF f (by omega)).1 (by omega)
        rw [nw_n hF (by omega)]
        by_cases w : ch M0 f
        · rw [g1 w]; exact ⟨fun _ => w, fun _ => by decide⟩
        · rw [g2 w]; exact ⟨fun r => absurd rfl r, fun r => absurd r w⟩
      · have e : q = 52 := by omega
        subst e
        rw [h52]; exact ⟨fun _ => nw_r M1, fun _ => by decide⟩
  · intro q hq w
    have g := (nw_b hF hq).mp w
    rw [b3 q hq, ← h1 q hq, if_neg g, f15]
  · intro p hp
    refine ⟨fun w => absurd w.2 (by omega), fun _ => ?_⟩
    rw [b1 4 (by decide) (by decide) (by decide) (by decide), b1 5 (by decide) (by decide) (by decide) (by decide), b1 6 (by decide) (by decide) (by decide) (by decide), b1 7 (by decide) (by decide) (by decide) (by decide), f11, f12, f13, f14]
    exact ⟨(h3 p hp).symm, (h4 p hp).symm, (h6 p hp).symm, (h5 p hp).symm⟩
  · intro s c hs hc
    refine ⟨fun ⟨p, _, w, _⟩ => absurd w.2 (by omega), fun _ => ?_⟩
    rw [b1 9 (by decide) (by decide) (by decide) (by decide), f7]
    exact (h9 c s hc hs).symm
  · intro c hc
    rw [b5 c hc]
    exact ⟨Or.inl rfl, fun q => absurd q (by decide), fun ⟨p, _, w, _⟩ => absurd w.2 (by omega)⟩
theorem r_sync2 {n : Int} {M0 N0 : Mem} (h : zRI n 0 M0 N0) (hn : n + 1 < 2 ^ 31) (hc : ∃ f : Nat, f < 4 ∧ ch M0 f) (ht : (f_X4_choosePlaces M0).1 = true) : zRI (n + 1) 0 (f_X4_sync M0).2 (f_X5_sync N0).2 ∧ qA c1E id (f_X4_sync M0).1 (f_X5_sync N0) := by
  obtain ⟨r1, _, _, r4⟩ := r_tries1 h hc
  have hT := r4 ht
  have eC : f_X4_sync M0 = (.inl (f_X4_writeChanges (f_X4_choosePlaces M0).2).1, f_X2_close (f_X4_freeWhatIsNotPointedTo (f_X4_writeChanges (f_X4_choosePlaces M0).2).2)) := by
    unfold f_X4_sync
    rw [if_neg (fun q => u_count0.mp q hc)]
    simp only [zlet]
    rw [ht]
    rfl
  rw [eC, v_syncS (r1 ▸ ht)]
  revert hT
  generalize (f_X4_choosePlaces M0).2 = M1
  generalize (f_X5_tries N0).2 = N1
  intro hT
  obtain ⟨hV, hB, h16, h2', hS0⟩ := r_pre h hT
  have hWS := r_wc hV
  have hSN := r_l76 hB h16 h2' 54 0 0 (nb N1) rfl (by omega) (by omega) hS0
  have hUS := r_freeW (f_X4_writeChanges M1).2
  revert hWS hSN hUS
  generalize (f_X4_writeChanges M1).1 = w
  generalize (f_X4_writeChanges M1).2 = M2
  generalize (l_X5_sync_76 54 0 (nb N1)).2 = N6
  generalize f_X4_freeWhatIsNotPointedTo M2 = M3
  intro hWS hSN hUS
  obtain ⟨hC, hFN, hW, _, _, _⟩ := hT
  have hF : FM M0 M1 := hC.2.1
  have hsum : N1 0 19 = sm (cw M1) 53 := hC.2.2.2.2.2.2.2.2.2
  obtain ⟨b1, b2, b3, b4, b5⟩ := v_nb N1
  have tr := W_tr hF hWS
  have val := W_val hF hWS
  have hcmp := r_cmp hWS hSN
  have hnw := nw_want hF hW
  have e208 := v_l208 121 0 N6 (by decide) (by decide)
  have z0 : ((0 : Int32).toNatClampNeg) = 0 := rfl
  rw [z0] at e208
  have u8 : ∀ c, c < 120 → (l_X5_sync_208 121 0 N6).2 8 c = M3 6 c := by
    intro c hc
    obtain ⟨x1, x2⟩ := hUS.2 c hc
    obtain ⟨y1, y2⟩ := hSN.2.2.2 c hc
    have g := r_used h.2 hC hnw c hc
    have e12 : N6 12 c = N1 12 c := by rw [hSN.1 12 (by decide) (by decide) (by decide) (by decide) (by decide) (by decide), b1 12 (by decide) (by decide) (by decide) (by decide)]
    have f11 : M1 11 = M0 11 := hF 11 (by decide) (by decide) (by decide) (by decide)
    have f12 : M1 12 = M0 12 := hF 12 (by decide) (by decide) (by decide) (by decide)
    have E : M3 6 c = 1 ↔ N1 12 c ≠ 0 ∧ ¬ N6 13 c = 1 := by
      rw [x2, y2, f11, f12]
      constructor
      · rintro ⟨p, hp, q⟩
        have g1 := g.mp ⟨p, hp, by
          by_cases wp : nw M1 p = true
          · obtain ⟨a1, a2, _⟩ := (tr p hp).1 wp
            rw [a1, a2] at q; exact Or.inl ⟨wp, q⟩
          · obtain ⟨a1, a2, _⟩ := (tr p hp).2 wp
            rw [a1, a2] at q; exact Or.inr ⟨wp, q⟩⟩
        exact ⟨g1.1, fun ⟨p', p1, p2, p3⟩ => g1.2 ⟨p', p1, p2.1, p3⟩⟩
      · rintro ⟨q1, q2⟩
        obtain ⟨p, hp, q⟩ := g.mpr ⟨q1, fun ⟨p', p1, p2, p3⟩ => q2 ⟨p', p1, ⟨p2, p1⟩, p3⟩⟩
        refine ⟨p, hp, ?_⟩
        rcases q with ⟨wp, q⟩ | ⟨wp, q⟩
        · obtain ⟨a1, a2, _⟩ := (tr p hp).1 wp
          rw [a1, a2]; exact q
        · obtain ⟨a1, a2, _⟩ := (tr p hp).2 wp
          rw [a1, a2]; exact q
    rw [e208, mset_eq, if_pos (by omega), e12]
    by_cases a : N1 12 c = 0
    · rw [if_pos a]
      rcases x1 with q | q
      · exact q.symm
      · exact absurd a (E.mp q).1
    · rw [if_neg a]
      rcases y1 with q | q
      · rw [if_neg (fun r => r q), E.mpr ⟨a, by rw [q]; decide⟩]
      · rw [if_pos (by rw [q]; decide)]
        rcases x1 with r | r
        · exact r.symm
        · exact absurd q (E.mp r).2
  have uj : ∀ j, j ≠ 8 → (l_X5_sync_208 121 0 N6).2 j = N6 j := fun j hj => by rw [e208, mset_ne hj]
  have hI3 : zI n M3 := zI_W h.2 hC hW hWS hUS
  revert u8 uj
  generalize (l_X5_sync_208 121 0 N6).2 = N7
  intro u8 uj
  simp only [zlet]
  obtain ⟨c1, c2, c3⟩ := u_close M3
  obtain ⟨h1, h2, h3, h4, h5, h6, h7, h8, h9, h10, h11, h12, h13⟩ := zR_FN h.1 hFN
  have w6 : ∀ j, j ≠ 0 → j ≠ 8 → (mup N7 0 1 (N7 0 1 + 1)) j = N6 j := by
    intro j j0 j8; unfold mup; rw [mset_ne j0, uj j j8]
  have n6 : ∀ j, j ≠ 4 → j ≠ 5 → j ≠ 6 → j ≠ 7 → j ≠ 9 → j ≠ 13 → j ≠ 0 → j ≠ 2 → j ≠ 3 → N6 j = N1 j := by
    intro j j4 j5 j6 j7 j9 j13 j0 j2 j3; rw [hSN.1 j j4 j5 j6 j7 j9 j13, b1 j j0 j2 j3 j13]
  have m3 : ∀ j, j ≠ 6 → j ≠ 7 → j ≠ 10 → j ≠ 11 → j ≠ 12 → j ≠ 13 → j ≠ 14 → j ≠ 16 → j ≠ 17 → j ≠ 18 → j ≠ 19 → M3 j = M0 j := by
    intro j j6 j7 j10 j11 j12 j13 j14 j16 j17 j18 j19; rw [hUS.1 j j6, hWS.1.1 j j7 j10 j11 j12 j13 j14, hF j j16 j17 j18 j19]
  have n0 : ∀ i, N7 0 i = if i = 0 then 0 else N1 0 i := by
    intro i; rw [uj 0 (by decide), hSN.1 0 (by decide) (by decide) (by decide) (by decide) (by decide) (by decide), b2]
  refine ⟨⟨⟨?_, ?_, ?_, ?_, ?_, ?_, ?_, ?_, ?_, ?_, ?_, ?_, ?_⟩, zI_close hI3 hn⟩, ?_, ?_⟩
  · intro k hk
    rw [c2 k hk, w6 3 (by decide) (by decide), hSN.1 3 (by decide) (by decide) (by decide) (by decide) (by decide) (by decide), b4 k hk]
  · intro k hk
    rw [c1 10 (by decide) (by decide), hUS.1 10 (by decide), val k hk, w6 2 (by decide) (by decide), hSN.1 2 (by decide) (by decide) (by decide) (by decide) (by decide) (by decide), b3 k hk]
    unfold vN
    rw [h1 k hk, h2 k hk]
  · intro k hk
    rw [c1 11 (by decide) (by decide), hUS.1 11 (by decide), w6 4 (by decide) (by decide)]; exact (hcmp.1 k hk).1
  · intro k hk
    rw [c1 12 (by decide) (by decide), hUS.1 12 (by decide), w6 5 (by decide) (by decide)]; exact (hcmp.1 k hk).2.1
  · intro k hk
    rw [c1 13 (by decide) (by decide), hUS.1 13 (by decide), w6 7 (by decide) (by decide)]; exact (hcmp.1 k hk).2.2.1
  · intro k hk
    rw [c1 14 (by decide) (by decide), hUS.1 14 (by decide), w6 6 (by decide) (by decide)]; exact (hcmp.1 k hk).2.2.2
  · rw [c1 5 (by decide) (by decide), m3 5 (by decide) (by decide) (by decide) (by decide) (by decide) (by decide) (by decide) (by decide) (by decide) (by decide) (by decide), w6 1 (by decide) (by decide), n6 1 (by decide) (by decide) (by decide) (by decide) (by decide) (by decide) (by decide) (by decide) (by decide)]; exact h7
  · intro c hc
    rw [c1 6 (by decide) (by decide), show (mup N7 0 1 (N7 0 1 + 1)) 8 = N7 8 by simp [mup, mset], u8 c hc]
  · intro k s hk hs
    rw [c1 7 (by decide) (by decide), hUS.1 7 (by decide), w6 9 (by decide) (by decide)]; exact hcmp.2 k s hk hs
  · rw [c1 8 (by decide) (by decide), m3 8 (by decide) (by decide) (by decide) (by decide) (by decide) (by decide) (by decide) (by decide) (by decide) (by decide) (by decide), w6 10 (by decide) (by decide), n6 10 (by decide) (by decide) (by decide) (by decide) (by decide) (by decide) (by decide) (by decide) (by decide)]; exact h10
  · rw [c1 9 (by decide) (by decide), m3 9 (by decide) (by decide) (by decide) (by decide) (by decide) (by decide) (by decide) (by decide) (by decide) (by decide) (by decide), w6 11 (by decide) (by decide), n6 11 (by decide) (by decide) (by decide) (by decide) (by decide) (by decide) (by decide) (by decide) (by decide)]; exact h11
  · rw [c3, m3 3 (by decide) (by decide) (by decide) (by decide) (by decide) (by decide) (by decide) (by decide) (by decide) (by decide) (by decide), h12]
    simp [mup, mset, upd, n0]
  · rw [c1 0 (by decide) (by decide), m3 0 (by decide) (by decide) (by decide) (by decide) (by decide) (by decide) (by decide) (by decide) (by decide) (by decide) (by decide), h13]
    simp [mup, mset, upd, n0]
  · show (mup N7 0 1 (N7 0 1 + 1)) 0 19 = w
    have e : (mup N7 0 1 (N7 0 1 + 1)) 0 19 = N7 0 19 := by simp [mup, mset, upd]
    have ew : w = sm (fun p => if dt M1 53 p = true then cw M1 p else 0) 53 := hWS.2
    rw [e, n0, if_neg (by decide), hsum, ew]
    refine sm_congr 53 (fun p hp => ?_)
    show cw M1 p = if dt M1 53 p = true then cw M1 p else 0
    rw [dt53 hp]
    by_cases wp : nw M1 p = true
    · rw [if_pos wp]
    · rw [if_neg wp]
      unfold cw
      rw [if_pos]
      by_cases q : M1 18 p = -1
      · exact q
      · exact absurd (hnw p hp q) wp
  · show (mup N7 0 1 (N7 0 1 + 1)) 0 0 = 0
    have e : (mup N7 0 1 (N7 0 1 + 1)) 0 0 = N7 0 0 := by simp [mup, mset, upd]
    rw [e, n0, if_pos rfl]
end
