section
/-! ===== PURE, sync: something is buffered; the class's memory stays a good one ===== -/
theorem y_nI {x : Int32} (h : 0 ≤ x.toInt ∧ x.toInt < 120) : x = nI x.toNatClampNeg := by
  have e := y_N h.1
  exact Int32.toInt_inj.mp (by rw [nI_toInt (by omega)]; omega)
theorem cP_U {M : Mem} {x : Int32} (h : cU M x) : cP x := by
  rcases h with h | ⟨h, _⟩
  · exact Or.inl h
  · exact Or.inr ⟨x.toNatClampNeg, y_cN h, y_nI h⟩
theorem cP_V {M : Mem} {x : Int32} (h : cV M x) : cP x := by
  rcases h with h | ⟨d, hd, h, _⟩
  · exact Or.inl h
  · exact Or.inr ⟨d, hd, h⟩
theorem nw_b {M0 M1 : Mem} (hF : FM M0 M1) {p : Nat} (hp : p < 48) : nw M1 p = true ↔ M0 15 p ≠ -1 := by
  unfold nw
  rw [if_pos hp, hF 15 (by decide) (by decide) (by decide) (by decide)]
  simp
theorem nw_n {M0 M1 : Mem} (hF : FM M0 M1) {f : Nat} (hf : f < 4) : nw M1 (48 + f) = true ↔ ch M0 f := by
  have hx : 0 ≤ (nI f).toInt ∧ (nI f).toInt < 4 := by rw [nI_toInt (by omega)]; omega
  unfold nw
  rw [if_neg (by omega), if_pos (by omega), Nat.add_sub_cancel_left, u_ch hx, nI_clamp (by omega)]
  exact ch_FM hF
theorem nw_r (M1 : Mem) : nw M1 52 = true := by
  unfold nw
  rw [if_neg (by omega), if_neg (by omega)]
theorem want_b {M0 : Mem} {p : Nat} (hp : p < 48) : want M0 p ↔ M0 15 p ≠ -1 ∧ M0 15 p ≠ 0 := by
  unfold want; rw [if_pos hp]
theorem want_n {M0 : Mem} {f : Nat} (hf : f < 4) : want M0 (48 + f) ↔ ch M0 f ∧ hd M0 f := by
  unfold want; rw [if_neg (by omega), if_pos (by omega), Nat.add_sub_cancel_left]
theorem want_r {M0 : Mem} : want M0 52 ↔ ∃ f : Nat, f < 4 ∧ hd M0 f := by
  unfold want; rw [if_neg (by omega), if_neg (by omega)]
theorem nw_want {M0 M1 : Mem} (hF : FM M0 M1) (hW : WT M0 53 M1) (p : Nat) (hp : p < 53) (h : M1 18 p ≠ -1) : nw M1 p = true := by
  have w := (hW p hp (tau_lt hp)).mp h
  by_cases p48 : p < 48
  · exact (nw_b hF p48).mpr ((want_b p48).mp w).1
  · by_cases p52 : p < 52
    · have e : p = 48 + (p - 48) := by omega
      rw [e] at w ⊢
      exact (nw_n hF (by omega)).mpr ((want_n (by omega)).mp w).1
    · have e : p = 52 := by omega
      rw [e]; exact nw_r M1
theorem no15_nw {M0 M1 : Mem} {k : Nat} (hF : FM M0 M1) (hk : k < 48) (w : ¬ nw M1 k = true) : M0 15 k = -1 := by
  by_cases q : M0 15 k = -1
  · exact q
  · exact absurd ((nw_b hF hk).mpr q) w
/-- where pointers lead after the class's writing; the blocks' values -/
theorem W_tr {M0 M1 M2 : Mem} {w : Int32} (hF : FM M0 M1) (hS : WS M1 53 w M2) : ∀ p, p < 53 → (nw M1 p = true → M2 11 p = M1 18 p ∧ M2 12 p = M1 19 p ∧ M2 14 p = if M1 18 p = -1 then 0 else M1 3 1) ∧ (¬ nw M1 p = true → M2 11 p = M0 11 p ∧ M2 12 p = M0 12 p ∧ M2 14 p = M0 14 p) := by
  intro p hp
  obtain ⟨a1, a2⟩ := hS.1.2.2.1 p hp
  simp only [dt53 hp] at a1 a2
  refine ⟨fun w => ⟨(a1 w).1, (a1 w).2.1, (a1 w).2.2.1⟩, fun w => ?_⟩
  obtain ⟨b1, b2, b3, _⟩ := a2 w
  rw [b1, b2, b3, hF 11 (by decide) (by decide) (by decide) (by decide), hF 12 (by decide) (by decide) (by decide) (by decide), hF 14 (by decide) (by decide) (by decide) (by decide)]
  exact ⟨rfl, rfl, rfl⟩
theorem W_val {M0 M1 M2 : Mem} {w : Int32} (hF : FM M0 M1) (hS : WS M1 53 w M2) : ∀ k, k < 48 → M2 10 k = vN M0 k := by
  intro k hk
  obtain ⟨a1, a2⟩ := hS.1.2.1 k hk
  simp only [dt53 (show k < 53 by omega)] at a1 a2
  unfold vN
  by_cases w : nw M1 k = true
  · rw [if_neg ((nw_b hF hk).mp w), a1 w, hF 15 (by decide) (by decide) (by decide) (by decide)]
  · rw [if_pos (no15_nw hF hk w), a2 w, hF 10 (by decide) (by decide) (by decide) (by decide)]
theorem zI_W {n : Int} {M0 M1 M2 M3 N1 : Mem} {w : Int32} (h : zI n M0) (hC : CH M0 53 M1 N1) (hW : WT M0 53 M1) (hS : WS M1 53 w M2) (hU : US M2 53 M3) : zI n M3 := by
  obtain ⟨i1, i2, i3, i4, i5, i6, ⟨i7, i8, i9⟩, i10, i11, i12, i13, i14⟩ := h
  obtain ⟨_, hF, _, _, _, _, c7, c8, c9, _⟩ := hC
  obtain ⟨⟨s1, s2, s3, s4⟩, s5⟩ := hS
  obtain ⟨u1, u2⟩ := hU
  have e3 : M3 3 = M0 3 := by rw [u1 3 (by decide), s1 3 (by decide) (by decide) (by decide) (by decide) (by decide) (by decide), hF 3 (by decide) (by decide) (by decide) (by decide)]
  have e5 : M3 5 = M0 5 := by rw [u1 5 (by decide), s1 5 (by decide) (by decide) (by decide) (by decide) (by decide) (by decide), hF 5 (by decide) (by decide) (by decide) (by decide)]
  have e8 : M3 8 = M0 8 := by rw [u1 8 (by decide), s1 8 (by decide) (by decide) (by decide) (by decide) (by decide) (by decide), hF 8 (by decide) (by decide) (by decide) (by decide)]
  have e9 : M3 9 = M0 9 := by rw [u1 9 (by decide), s1 9 (by decide) (by decide) (by decide) (by decide) (by decide) (by decide), hF 9 (by decide) (by decide) (by decide) (by decide)]
  have e15 : M3 15 = M0 15 := by rw [u1 15 (by decide), s1 15 (by decide) (by decide) (by decide) (by decide) (by decide) (by decide), hF 15 (by decide) (by decide) (by decide) (by decide)]
  have e10 := u1 10 (by decide)
  have e11 := u1 11 (by decide)
  have e12 := u1 12 (by decide)
  have e14 := u1 14 (by decide)
  have tr := W_tr hF ⟨⟨s1, s2, s3, s4⟩, s5⟩
  have plN : ∀ p, p < 53 → nw M1 p = true → cV M0 (M2 11 p) ∧ cV M0 (M2 12 p) := by
    intro p hp w
    obtain ⟨a1, a2, _⟩ := (tr p hp).1 w
    rw [a1, a2]; exact c7 p hp
  have plO : ∀ p, p < 53 → ¬ nw M1 p = true → cU M0 (M2 11 p) ∧ cU M0 (M2 12 p) := by
    intro p hp w
    obtain ⟨a1, a2, _⟩ := (tr p hp).2 w
    rw [a1, a2]; exact i1 p hp
  have cp : ∀ p, p < 53 → cP (M2 11 p) ∧ cP (M2 12 p) := by
    intro p hp
    by_cases w : nw M1 p = true
    · exact ⟨cP_V (plN p hp w).1, cP_V (plN p hp w).2⟩
    · exact ⟨cP_U (plO p hp w).1, cP_U (plO p hp w).2⟩
  have apart : ∀ x, cV M0 x → cU M0 x → x = -1 := by
    intro x h1 h2
    rcases h1 with h1 | ⟨d, hd, h1, h0⟩
    · exact h1
    · rcases h2 with h2 | ⟨_, h2⟩
      · exact h2
      · rw [h1, nI_clamp (by omega), h0] at h2; exact absurd h2 (by decide)
  have toU : ∀ x, cP x → (∃ q, q < 53 ∧ (M2 11 q = x ∨ M2 12 q = x)) → cU M3 x := by
    rintro x (e | ⟨d, hd, e⟩) hq
    · exact Or.inl e
    · refine Or.inr ⟨?_, ?_⟩
      · rw [e, nI_toInt (by omega)]; omega
      · rw [e, nI_clamp (by omega)]; rw [e] at hq; exact (u2 d hd).2.mpr hq
  have wW : ∀ p, p < 53 → (M1 18 p ≠ -1 ↔ want M0 p) := fun p hp => hW p hp (tau_lt hp)
  have no15 := fun k hk => no15_nw (k := k) hF hk
  have val := W_val hF ⟨⟨s1, s2, s3, s4⟩, s5⟩
  have vne : ∀ k, k < 48 → M2 11 k ≠ -1 → vN M0 k ≠ 0 := by
    intro k hk ne
    unfold vN
    by_cases w : nw M1 k = true
    · rw [((tr k (by omega)).1 w).1] at ne
      have g := (want_b hk).mp ((wW k (by omega)).mp ne)
      rw [if_neg g.1]; exact g.2
    · rw [((tr k (by omega)).2 w).1] at ne
      rw [if_pos (no15 k hk w)]; exact i8 k hk ne
  have hdf : ∀ f, f < 4 → M2 11 (48 + f) ≠ -1 → hd M0 f := by
    intro f hf ne
    by_cases w : nw M1 (48 + f) = true
    · rw [((tr _ (by omega)).1 w).1] at ne
      exact ((want_n hf).mp ((wW _ (by omega)).mp ne)).2
    · rw [((tr _ (by omega)).2 w).1] at ne
      obtain ⟨b, hb, q⟩ := i9 f hf ne
      refine ⟨b, hb, ?_⟩
      unfold vN
      rw [if_pos (no15 _ (by omega) (fun r => w ((nw_n hF hf).mpr ⟨b, hb, (nw_b hF (by omega)).mp r⟩)))]
      exact q
  refine ⟨?_, ?_, ?_, ?_, ?_, ?_, ⟨?_, ?_, ?_⟩, ?_, ?_, ?_, ?_, ?_⟩
  · intro k hk
    rw [e11, e12]
    exact ⟨toU _ (cp k hk).1 ⟨k, hk, Or.inl rfl⟩, toU _ (cp k hk).2 ⟨k, hk, Or.inr rfl⟩⟩
  · intro c hc
    rw [e11, e12]
    rcases (u2 c hc).1 with q | q
    · exact Or.inl q
    · exact Or.inr ⟨q, (u2 c hc).2.mp q⟩
  · intro k l hk hl
    rw [e11, e12]
    by_cases wk : nw M1 k = true
    · by_cases wl : nw M1 l = true
      · obtain ⟨a1, a2, _⟩ := (tr k hk).1 wk
        obtain ⟨b1, b2, _⟩ := (tr l hl).1 wl
        rw [a1, a2, b1, b2]; exact c8 k l hk hl
      · exact ⟨fun q ne => absurd (apart _ (plN k hk wk).1 (by rw [q]; exact (plO l hl wl).1)) ne, fun q ne => absurd (apart _ (plN k hk wk).2 (by rw [q]; exact (plO l hl wl).2)) ne, fun q => apart _ (plN k hk wk).1 (by rw [q]; exact (plO l hl wl).2)⟩
    · by_cases wl : nw M1 l = true
      · exact ⟨fun q ne => absurd (apart _ (by rw [q]; exact (plN l hl wl).1) (plO k hk wk).1) ne, fun q ne => absurd (apart _ (by rw [q]; exact (plN l hl wl).2) (plO k hk wk).2) ne, fun q => apart _ (by rw [q]; exact (plN l hl wl).2) (plO k hk wk).1⟩
      · obtain ⟨a1, a2, _⟩ := (tr k hk).2 wk
        obtain ⟨b1, b2, _⟩ := (tr l hl).2 wl
        rw [a1, a2, b1, b2]; exact i3 k l hk hl
  · intro k hk
    rw [e11, e12]
    by_cases wk : nw M1 k = true
    · obtain ⟨a1, a2, _⟩ := (tr k hk).1 wk
      rw [a1, a2]; exact c9 k hk
    · obtain ⟨a1, a2, _⟩ := (tr k hk).2 wk
      rw [a1, a2]; exact i4 k hk
  · intro f b hf hb ne
    rw [e11] at ne ⊢
    by_cases wf : nw M1 (48 + f) = true
    · rw [((tr _ (by omega)).1 wf).1]
      exact (wW _ (by omega)).mpr ((want_n hf).mpr ⟨(nw_n hF hf).mp wf, b, hb, vne _ (by omega) ne⟩)
    · rw [((tr _ (by omega)).2 wf).1]
      have wb : ¬ nw M1 (12 * f + b) = true := fun q => wf ((nw_n hF hf).mpr ⟨b, hb, (nw_b hF (by omega)).mp q⟩)
      rw [((tr _ (by omega)).2 wb).1] at ne
      exact i5 f b hf hb ne
  · intro f hf ne
    rw [e11] at ne ⊢
    rw [((tr 52 (by omega)).1 (nw_r M1)).1]
    exact (wW 52 (by omega)).mpr (want_r.mpr ⟨f, hf, hdf f hf ne⟩)
  · intro k hk
    rw [e11, e14]
    by_cases wk : nw M1 k = true
    · obtain ⟨a1, _, a3⟩ := (tr k hk).1 wk
      rw [a1, a3]; intro q; rw [if_pos q]
    · obtain ⟨a1, _, a3⟩ := (tr k hk).2 wk
      rw [a1, a3]; exact i7 k hk
  · intro k hk
    rw [e11, e10, val k hk]
    exact vne k hk
  · intro f hf ne
    rw [e11] at ne
    obtain ⟨b, hb, q⟩ := hdf f hf ne
    exact ⟨b, hb, by rw [e10, val _ (by omega)]; exact q⟩
  · rw [e8]; exact i10
  · rw [e9]; exact i11
  · rw [e3]; exact i12
  · rw [e15]; exact i13
  · rw [e5]; exact i14
end
