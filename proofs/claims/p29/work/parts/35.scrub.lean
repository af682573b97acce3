section
/-! ===== PURE: scrub, lost ===== -/
theorem y_01 : (0 : Int32) + 1 = 1 := by decide
theorem y_12' : (1 : Int32) + 1 = 2 := by decide
theorem u_hecA (x1 x3 c v w : Int32) (k : Nat) (M : Mem) (hw : ¬ 2 ≤ w) : l_X4_healEveryCell_23 x1 x3 c (k + 1) v w M = l_X4_healEveryCell_23 x1 x3 c k (v + (f_X0_heal c w M).1) (w + 1) (f_X0_heal c w M).2 := by
  show b_X4_healEveryCell_23 x1 x3 c (l_X4_healEveryCell_23 x1 x3 c k) v w M = _
  unfold b_X4_healEveryCell_23
  rw [if_neg hw]
  rfl
theorem u_hecB (x1 x3 c v : Int32) (k : Nat) (M : Mem) : l_X4_healEveryCell_23 x1 x3 c (k + 1) v 2 M = (v, 2, M) := by
  show b_X4_healEveryCell_23 x1 x3 c (l_X4_healEveryCell_23 x1 x3 c k) v 2 M = _
  unfold b_X4_healEveryCell_23
  rw [if_pos (by decide)]
theorem u_hec1 (x1 x3 c v : Int32) (M : Mem) : l_X4_healEveryCell_23 x1 x3 c 3 v 0 M = (v + (f_X0_heal c 0 M).1 + (f_X0_heal c 1 (f_X0_heal c 0 M).2).1, 2, (f_X0_heal c 1 (f_X0_heal c 0 M).2).2) := by
  rw [u_hecA x1 x3 c v 0 2 M (by decide), y_01, u_hecA x1 x3 c _ 1 1 _ (by decide), y_12', u_hecB]
theorem u_hecC (p v w : Int32) (k : Nat) (M : Mem) (hw : ¬ 2 ≤ w) : l_X4_healEveryCell_4 p (k + 1) v w M = l_X4_healEveryCell_4 p k (l_X4_healEveryCell_23 p w (f_X3_placeOf p w M) 3 v 0 M).1 (w + 1) (l_X4_healEveryCell_23 p w (f_X3_placeOf p w M) 3 v 0 M).2.2 := by
  show b_X4_healEveryCell_4 p (l_X4_healEveryCell_4 p k) v w M = _
  unfold b_X4_healEveryCell_4
  rw [if_neg hw]
  rfl
theorem u_hecD (p v : Int32) (k : Nat) (M : Mem) : l_X4_healEveryCell_4 p (k + 1) v 2 M = (v, 2, M) := by
  show b_X4_healEveryCell_4 p (l_X4_healEveryCell_4 p k) v 2 M = _
  unfold b_X4_healEveryCell_4
  rw [if_pos (by decide)]
theorem u_hec (p : Int32) (M : Mem) (hp : 0 ≤ p.toInt ∧ p.toInt < 53) : f_X4_healEveryCell p M =
    zlet (f_X0_heal (M 11 p.toNatClampNeg) 0 M) (fun q1 => zlet (f_X0_heal (M 11 p.toNatClampNeg) 1 q1.2) (fun q2 => zlet (f_X0_heal (q2.2 12 p.toNatClampNeg) 0 q2.2) (fun q3 => zlet (f_X0_heal (q2.2 12 p.toNatClampNeg) 1 q3.2) (fun q4 => (q1.1 + q2.1 + q3.1 + q4.1, q4.2))))) := by
  unfold f_X4_healEveryCell
  simp only [zlet]
  rw [u_hecC p 0 0 2 M (by decide), y_01, u_hecC p _ 1 1 _ (by decide), y_12', u_hecD]
  simp only [u_hec1, u_pl0 hp, u_pl1 hp, Int32.zero_add]
theorem r_healAll {n : Int} {d p : Int32} {M N : Mem} (h : zRI n d M N) (hp : 0 ≤ p.toInt ∧ p.toInt < 53) (hr : f_X5_isReadable p N = true) :
    (f_X4_healEveryCell p M).1 = (f_X5_healAll p N).1 ∧ zRI n d (f_X4_healEveryCell p M).2 (f_X5_healAll p N).2 := by
  have hN := y_pN hp
  have kc := h.2.1 _ hN
  unfold f_X5_healAll
  rw [u_hec p M hp, if_pos hr]
  simp only [zlet]
  obtain ⟨a1, b1, ⟨f1, c1⟩, g1, w1⟩ := r_heal h (s := 0) (Or.inl rfl) kc.1
  have t1 := sK.of c1
  obtain ⟨a2, b2, ⟨f2, c2⟩, g2, w2⟩ := r_heal b1 (s := 1) (Or.inr rfl) (kc.1.kept t1)
  have t2 := t1.trans (sK.of c2)
  have kc2 := b2.2.1 _ hN
  obtain ⟨a3, b3, ⟨f3, c3⟩, g3, w3⟩ := r_heal b2 (s := 0) (Or.inl rfl) kc2.2
  have t3 := sK.of c3
  obtain ⟨a4, b4, ⟨f4, c4⟩, g4, w4⟩ := r_heal b3 (s := 1) (Or.inr rfl) (kc2.2.kept t3)
  rw [← h.1.2.2.1 _ hN]
  have e2 : (f_X5_heal (M 11 p.toNatClampNeg) 0 N).2 4 p.toNatClampNeg = M 11 p.toNatClampNeg := by rw [← b1.1.2.2.1 _ hN, t1 11 (by decide)]
  rw [e2]
  have e3 : (f_X5_heal (M 11 p.toNatClampNeg) 1 (f_X5_heal (M 11 p.toNatClampNeg) 0 N).2).2 5 p.toNatClampNeg = (f_X0_heal (M 11 p.toNatClampNeg) 1 (f_X0_heal (M 11 p.toNatClampNeg) 0 M).2).2 12 p.toNatClampNeg := (b2.1.2.2.2.1 _ hN).symm
  rw [e3]
  have e4 : (f_X5_heal ((f_X0_heal (M 11 p.toNatClampNeg) 1 (f_X0_heal (M 11 p.toNatClampNeg) 0 M).2).2 12 p.toNatClampNeg) 0 (f_X5_heal (M 11 p.toNatClampNeg) 1 (f_X5_heal (M 11 p.toNatClampNeg) 0 N).2).2).2 5 p.toNatClampNeg = (f_X0_heal (M 11 p.toNatClampNeg) 1 (f_X0_heal (M 11 p.toNatClampNeg) 0 M).2).2 12 p.toNatClampNeg := by rw [← b3.1.2.2.2.1 _ hN, t3 12 (by decide)]
  rw [e4, a1, a2, a3, a4]
  exact ⟨rfl, b4⟩
theorem v_hAno {p : Int32} {N : Mem} (hr : ¬ f_X5_isReadable p N = true) : f_X5_healAll p N = (0, N) := by unfold f_X5_healAll; rw [if_neg hr]
/-- healing leaves what can be read -/
theorem v_goodM {c s c' s' : Int32} {N : Mem} (h : f_X5_isGood c' s' N = true) : f_X5_isGood c' s' (f_X5_heal c s N).2 = true := by
  have h10 : (f_X5_heal c s N).2 10 = N 10 := by
    unfold f_X5_heal
    repeat' split
    all_goals first | rfl | exact mset_ne (by decide)
  have h9 (k : Nat) : N 9 k = 0 → (f_X5_heal c s N).2 9 k = 0 := by
    intro e
    unfold f_X5_heal
    repeat' split
    all_goals first | exact e | (simp only [mup, mset_eq, upd]; split <;> first | rfl | exact e)
  unfold f_X5_isGood at h ⊢
  rw [h10]
  by_cases e1 : c' = -1
  · rw [if_pos e1] at h; exact absurd h (by decide)
  · rw [if_neg e1] at h ⊢
    by_cases e2 : ¬ N 10 (2 * (c' / 40) + s').toNatClampNeg = 0
    · rw [if_pos e2] at h; exact absurd h (by decide)
    · rw [if_neg e2] at h ⊢
      by_cases e3 : ¬ N 9 (2 * c' + s').toNatClampNeg = 0
      · rw [if_pos e3] at h; exact absurd h (by decide)
      · rw [if_neg (fun q => q (h9 _ (Classical.not_not.mp e3)))]
theorem v_readM {c s q : Int32} {N : Mem} (h : f_X5_isReadable q N = true) : f_X5_isReadable q (f_X5_heal c s N).2 = true := by
  have h4 : (f_X5_heal c s N).2 4 = N 4 := by
    unfold f_X5_heal
    repeat' split
    all_goals first | rfl | exact mset_ne (by decide)
  have h5 : (f_X5_heal c s N).2 5 = N 5 := by
    unfold f_X5_heal
    repeat' split
    all_goals first | rfl | exact mset_ne (by decide)
  rw [u_isReadable] at h ⊢
  rw [h4, h5]
  simp only [Bool.or_eq_true] at h ⊢
  rcases h with ((h | h) | h) | h
  · exact Or.inl (Or.inl (Or.inl (v_goodM h)))
  · exact Or.inl (Or.inl (Or.inr (v_goodM h)))
  · exact Or.inl (Or.inr (v_goodM h))
  · exact Or.inr (v_goodM h)
theorem v_readA {p q : Int32} {N : Mem} (h : f_X5_isReadable q N = true) : f_X5_isReadable q (f_X5_healAll p N).2 = true := by
  unfold f_X5_healAll
  split
  · simp only [zlet]; exact v_readM (v_readM (v_readM (v_readM h)))
  · exact h
theorem r_lsf {n : Int} {d x : Int32} (hx : 0 ≤ x.toInt ∧ x.toInt < 4) : ∀ (k : Nat) (base v v4 : Int32) (M N : Mem), zRI n d M N → f_X5_isReadable (48 + x) N = true → 0 ≤ v4.toInt → v4.toInt ≤ 12 →
    (l_X5_scrub_39 x k (base + v) (12 * x + v4) N).1 = base + (l_X4_scrubFile_24 x k v v4 M).1 ∧ zRI n d (l_X4_scrubFile_24 x k v v4 M).2.2 (l_X5_scrub_39 x k (base + v) (12 * x + v4) N).2.2 ∧ ∀ q, f_X5_isReadable q N = true → f_X5_isReadable q (l_X5_scrub_39 x k (base + v) (12 * x + v4) N).2.2 = true := by
  intro k
  induction k with
  | zero => intro base v v4 M N h _ _ _; exact ⟨rfl, h, fun _ q => q⟩
  | succ k ih =>
    intro base v v4 M N h hr g0 g1
    show (b_X5_scrub_39 x (l_X5_scrub_39 x k) (base + v) (12 * x + v4) N).1 = base + (b_X4_scrubFile_24 x (l_X4_scrubFile_24 x k) v v4 M).1 ∧ zRI n d (b_X4_scrubFile_24 x (l_X4_scrubFile_24 x k) v v4 M).2.2 (b_X5_scrub_39 x (l_X5_scrub_39 x k) (base + v) (12 * x + v4) N).2.2 ∧ ∀ q, f_X5_isReadable q N = true → f_X5_isReadable q (b_X5_scrub_39 x (l_X5_scrub_39 x k) (base + v) (12 * x + v4) N).2.2 = true
    unfold b_X4_scrubFile_24 b_X5_scrub_39
    have e12 := z12 hx (b := 12) (by decide)
    have e4 := z12 hx (b := v4) ⟨g0, g1⟩
    simp only [Int32.reduceToInt] at e12
    have eg : (12 * x + 12 ≤ 12 * x + v4) ↔ 12 ≤ v4 := by
      rw [Int32.le_iff_toInt_le, Int32.le_iff_toInt_le, e12, e4]; simp only [Int32.reduceToInt]; omega
    by_cases hg : 12 ≤ v4
    · rw [if_pos hg, if_pos (eg.mpr hg)]; exact ⟨rfl, h, fun _ q => q⟩
    · rw [if_neg hg, if_neg (fun q => hg (eg.mp q)), if_pos hr]
      have hv : v4.toInt < 12 := by rw [Int32.le_iff_toInt_le] at hg; simp only [Int32.reduceToInt] at hg; omega
      have hn := z_p1 hg
      have hp := y_bp3 (a := x) (b := v4) ⟨hx, g0, hv⟩
      rw [y_pt, r_fetch h hp]
      simp only [zlet]
      rw [Int32.add_assoc (12 * x) v4 1]
      by_cases e : f_X5_isReadable (12 * x + v4) N = true
      · rw [if_pos e]
        obtain ⟨r1, r2⟩ := r_healAll h hp e
        rw [← r1, Int32.add_assoc base]
        obtain ⟨i1, i2, i3⟩ := ih base (v + (f_X4_healEveryCell (12 * x + v4) M).1) (v4 + 1) _ _ r2 (v_readA hr) (by omega) (by omega)
        exact ⟨i1, i2, fun q hq => i3 q (v_readA hq)⟩
      · rw [if_neg e, v_hAno e, Int32.add_zero]
        exact ih base v (v4 + 1) _ _ h hr (by omega) (by omega)
theorem r_lscrub {n : Int} {d : Int32} : ∀ (k : Nat) (v1 v2 : Int32) (M N : Mem), zRI n d M N → f_X5_isReadable 52 N = true → 0 ≤ v2.toInt → v2.toInt ≤ 4 →
    (l_X5_scrub_9 k v1 v2 N).1 = (l_X4_scrub_22 k v1 v2 M).1 ∧ zRI n d (l_X4_scrub_22 k v1 v2 M).2.2 (l_X5_scrub_9 k v1 v2 N).2.2 := by
  intro k
  induction k with
  | zero => intro v1 v2 M N h _ _ _; exact ⟨rfl, h⟩
  | succ k ih =>
    intro v1 v2 M N h hr g0 g1
    show (b_X5_scrub_9 (l_X5_scrub_9 k) v1 v2 N).1 = (b_X4_scrub_22 (l_X4_scrub_22 k) v1 v2 M).1 ∧ zRI n d (b_X4_scrub_22 (l_X4_scrub_22 k) v1 v2 M).2.2 (b_X5_scrub_9 (l_X5_scrub_9 k) v1 v2 N).2.2
    unfold b_X4_scrub_22 b_X5_scrub_9
    by_cases hg : 4 ≤ v2
    · rw [if_pos hg, if_pos hg]; exact ⟨rfl, h⟩
    · rw [if_neg hg, if_neg hg, if_pos hr]
      have hx := z_4 hg g0
      have hn := z_p1 hg
      have hf := y_fp hx
      have e12 := z12 hx (b := 12) (by decide)
      simp only [Int32.reduceToInt] at e12
      have ef : ((12 * v2 + 12 : Int32).toInt - (12 * v2 : Int32).toInt).toNat + 1 = 13 := by rw [e12, z12' hx]; omega
      rw [ef]
      unfold f_X4_scrubFile
      simp only [zlet]
      rw [show f_X4_filePointer v2 = 48 + v2 from rfl, r_fetch h hf]
      by_cases e : f_X5_isReadable (48 + v2) N = true
      · rw [if_pos e]
        obtain ⟨r1, r2⟩ := r_healAll h hf e
        obtain ⟨i1, i2, i3⟩ := r_lsf hx 13 v1 (f_X4_healEveryCell (48 + v2) M).1 0 _ _ r2 (v_readA e) (by decide) (by decide)
        rw [Int32.add_zero] at i1 i2 i3
        rw [← r1, i1]
        exact ih _ (v2 + 1) _ _ i2 (i3 52 (v_readA hr)) (by omega) (by omega)
      · rw [if_neg e, v_hAno e]
        have e0 : l_X5_scrub_39 v2 13 (v1 + 0) (12 * v2) N = (v1 + 0, 12 * v2, N) := by
          show b_X5_scrub_39 v2 (l_X5_scrub_39 v2 12) (v1 + 0) (12 * v2) N = _
          unfold b_X5_scrub_39
          rw [if_neg (by rw [Int32.le_iff_toInt_le, e12, z12' hx]; omega), if_neg e]
        rw [e0]
        exact ih _ (v2 + 1) _ _ h hr (by omega) (by omega)
theorem zR_d {d x : Int32} {M N : Mem} (h : zR d M N) : zR d (mup M 0 5 (M 0 5 + x)) (mup N 0 2 (N 0 2 + x)) := by
  obtain ⟨h1, h2, h3, h4, h5, h6, h7, h8, h9, h10, h11, h12, h13⟩ := h
  refine ⟨by simpa [mup, mset] using h1, by simpa [mup, mset] using h2, by simpa [mup, mset] using h3, by simpa [mup, mset] using h4, by simpa [mup, mset] using h5, by simpa [mup, mset] using h6, by simpa [mup, mset] using h7, by simpa [mup, mset] using h8, by simpa [mup, mset] using h9, by simpa [mup, mset] using h10, by simpa [mup, mset] using h11, by simpa [mup, mset, upd] using h12, ?_⟩
  simp only [mup, mset, upd, if_true]
  rw [← h13, Int32.add_assoc, Int32.add_comm x d, Int32.add_assoc]
theorem r_scrub {n : Int} {M N : Mem} (h : zRI n 0 M N) : zRI n 0 (f_X4_scrub M).2 (f_X5_scrub N).2 ∧ (f_X4_scrub M).1 = (f_X5_scrub N).1 := by
  unfold f_X4_scrub f_X5_scrub
  simp only [zlet]
  rw [r_fetch h y_52]
  by_cases e : f_X5_isReadable 52 N = true
  · rw [if_pos e]
    obtain ⟨r1, r2⟩ := r_healAll h y_52 e
    obtain ⟨i1, i2⟩ := r_lscrub 5 (f_X4_healEveryCell 52 M).1 0 _ _ r2 (v_readA e) (by decide) (by decide)
    rw [Int32.zero_add, ← r1, i1]
    exact ⟨zRI_00 ⟨zR_d i2.1, zI_0 i2.2⟩, rfl⟩
  · rw [if_neg e, v_hAno e]
    have e0 : l_X5_scrub_9 5 0 0 N = (0, 0, N) := by
      show b_X5_scrub_9 (l_X5_scrub_9 4) 0 0 N = _
      unfold b_X5_scrub_9
      rw [if_neg (by decide), if_neg e]
    rw [e0]
    exact ⟨zRI_00 ⟨zR_d h.1, zI_0 h.2⟩, rfl⟩
end
