section
/-! ===== PURE: online ===== -/
/-- while a side comes back: for the reference it is online already -/
def zRx (n : Int) (k : Nat) (x : Int32) (M N : Mem) : Prop := zR 0 (mup M 8 k 0) N ∧ zI n M ∧ M 8 k ≠ 0 ∧ M 9 k = x
theorem zRx_7 {n : Int} {k : Nat} {x y : Int32} {M N : Mem} {c s : Nat} (hc : c < 120) (hs : s < 2) (h : zRx n k x M N) : zRx n k x (mup M 7 (120 * s + c) y) (mup N 9 (2 * c + s) y) := by
  have e : mup (mup M 7 (120 * s + c) y) 8 k 0 = mup (mup M 8 k 0) 7 (120 * s + c) y := by
    funext j
    simp only [mup, mset]
    by_cases e7 : j = 7
    · subst e7; simp
    · by_cases e8 : j = 8
      · subst e8; simp
      · simp [e7, e8]
  refine ⟨?_, zI_7 h.2.1, by simpa [mup, mset] using h.2.2.1, by simpa [mup, mset] using h.2.2.2⟩
  rw [e]
  exact zR_7 hc hs h.1
theorem y_sN {s : Int32} (h : s = 0 ∨ s = 1) : s.toNatClampNeg = 0 ∧ s = 0 ∨ s.toNatClampNeg = 1 ∧ s = 1 := by
  rcases h with rfl | rfl
  · exact Or.inl ⟨rfl, rfl⟩
  · exact Or.inr ⟨rfl, rfl⟩
/-- the place c on the mirror m, the other place c' elsewhere -/
theorem r_copy {n : Int} {x m s c c' : Int32} {M N : Mem} (hm : 0 ≤ m.toInt ∧ m.toInt < 3) (hs : s = 0 ∨ s = 1) (h : zRx n (2 * m.toNatClampNeg + s.toNatClampNeg) x M N) (hc : cU M c) (h1 : c ≠ -1) (hcm : c / 40 = m) (hc' : cU M c') (h2 : c' = -1 ∨ c' / 40 ≠ m) (cf : Bool) (hcf : cf = ((f_X0_isGood c 0 M || f_X0_isGood c 1 M) || (f_X0_isGood c' 0 M || f_X0_isGood c' 1 M))) :
    f_X5_copy c c' m s N = (1, mup N 9 (2 * c.toNatClampNeg + s.toNatClampNeg) (bI (!cf))) ∧ zRx n (2 * m.toNatClampNeg + s.toNatClampNeg) x (f_X0_mark c s (!cf) M) (mup N 9 (2 * c.toNatClampNeg + s.toNatClampNeg) (bI (!cf))) := by
  rcases hc with hc | ⟨hc, hu⟩
  · exact absurd hc h1
  have hN := y_cN hc
  have em : c.toNatClampNeg / 40 = m.toNatClampNeg := by rw [← hcm, y_d40 hc.1]
  have hm3 : m.toNatClampNeg < 3 := by simp only [Int32.toNatClampNeg]; omega
  have hother (t : Int32) (ht : t = 0 ∨ t = 1) : f_X0_isGood c' t M = f_X5_isGood c' t N := by
    rcases hc' with rfl | ⟨hc', hu'⟩
    · rw [u_good0, v_good0]
    · have h6 := (y_m2 ht hc').2.2
      rw [(y_m2 ht hc').2.1] at h6
      have hne : c'.toNatClampNeg / 40 ≠ m.toNatClampNeg := by
        intro e
        rcases h2 with h2 | h2
        · exact y_ne1 hc'.1 h2
        · refine h2 (Int32.toInt_inj.mp ?_)
          have := y_d40 hc'.1
          have e40 := z_d40 hc'.1
          simp only [Int32.toNatClampNeg] at e this
          omega
      have e8 : (mup M 8 (2 * m.toNatClampNeg + s.toNatClampNeg) 0) 8 (2 * (c'.toNatClampNeg / 40) + t.toNatClampNeg) = M 8 (2 * (c'.toNatClampNeg / 40) + t.toNatClampNeg) := by
        have b1 := y_sideN ht
        have b2 := y_sideN hs
        unfold mup
        rw [mset_eq, pk_un (by omega)]
      rw [u_good ht hc' hu', v_good ht hc', ← h.1.2.2.2.2.2.2.2.2.2.1 _ h6, e8, ← h.1.2.2.2.2.2.2.2.2.1 _ _ (y_cN hc') (y_sideN ht)]
      simp [mup, mset]
  have e7 (t : Nat) (ht : t < 2) : N 9 (2 * c.toNatClampNeg + t) = M 7 (120 * t + c.toNatClampNeg) := by
    rw [← h.1.2.2.2.2.2.2.2.2.1 _ _ hN ht]; simp [mup, mset]
  have k8 := h.2.2.1
  have hside := h.2.1.2.2.2.2.2.2.2.1 _ hm3
  have hcf2 : cf = (decide (N 9 (2 * c + 1 - s).toNatClampNeg = 0) || (f_X5_isGood c' 0 N || f_X5_isGood c' 1 N)) := by
    rw [hcf, hother 0 (Or.inl rfl), hother 1 (Or.inr rfl), u_good (Or.inl rfl) hc hu, u_good (Or.inr rfl) hc hu, em]
    have z0 : ((0 : Int32).toNatClampNeg) = 0 := rfl
    have z1 : ((1 : Int32).toNatClampNeg) = 1 := rfl
    rw [z0, z1, Nat.add_zero]
    rcases y_sN hs with ⟨es, rfl⟩ | ⟨es, rfl⟩
    · rw [es, Nat.add_zero] at k8
      have g1 : M 8 (2 * m.toNatClampNeg + 1) = 0 := hside.resolve_left k8
      have ei : (2 * c + 1 - 0).toNatClampNeg = 2 * c.toNatClampNeg + 1 := by
        rw [Int32.sub_zero, y_2 (by decide) hc]; rfl
      rw [ei, e7 1 (by omega)]
      simp [k8, g1]
    · rw [es] at k8
      have g0 : M 8 (2 * m.toNatClampNeg) = 0 := hside.resolve_right k8
      have ei : (2 * c + 1 - 1).toNatClampNeg = 2 * c.toNatClampNeg := by
        rw [Int32.add_sub_cancel]
        have := y_2 (s := 0) (by decide) hc
        rw [Int32.add_zero] at this
        exact this
      rw [ei, show 2 * c.toNatClampNeg = 2 * c.toNatClampNeg + 0 from rfl, e7 0 (by omega)]
      simp [k8, g0]
  have ei : (2 * c + s).toNatClampNeg = 2 * c.toNatClampNeg + s.toNatClampNeg := y_2 (y_side hs) hc
  refine ⟨?_, ?_⟩
  · unfold f_X5_copy
    rw [if_neg h1, if_pos hcm, ei]
    by_cases q1 : N 9 (2 * c + 1 - s).toNatClampNeg = 0
    · rw [if_pos q1, hcf2]; simp [q1, bI]
    · rw [if_neg q1]
      by_cases q2 : f_X5_isGood c' 0 N = true
      · rw [if_pos q2, hcf2]; simp [q2, bI]
      · rw [if_neg q2]
        by_cases q3 : f_X5_isGood c' 1 N = true
        · rw [if_pos q3, hcf2]; simp [q3, bI]
        · rw [if_neg q3, hcf2]; simp [q1, q2, q3, bI]
  · rw [u_mark hs hc]
    exact zRx_7 hN (y_sideN hs) h
theorem v_copy0 {c c' m s : Int32} {N : Mem} (h : c = -1 ∨ c / 40 ≠ m) : f_X5_copy c c' m s N = (0, N) := by
  unfold f_X5_copy
  by_cases e : c = -1
  · rw [if_pos e]
  · rw [if_neg e, if_neg (h.resolve_left e)]
theorem u_ctsA (x1 x2 x3 v w : Int32) (k : Nat) (M : Mem) (hw : ¬ 2 ≤ w) : l_X4_copyToSide_6 x1 x2 x3 (k + 1) v w M =
    if f_X3_placeOf x1 w M = -1 ∨ f_X3_placeOf x1 w M / 40 ≠ x2 then l_X4_copyToSide_6 x1 x2 x3 k v (w + 1) M else l_X4_copyToSide_6 x1 x2 x3 k (v + 1) (w + 1) (f_X0_mark (f_X3_placeOf x1 w M) x3 (! f_X4_canFetch x1 M) M) := by
  show b_X4_copyToSide_6 x1 x2 x3 (l_X4_copyToSide_6 x1 x2 x3 k) v w M = _
  unfold b_X4_copyToSide_6 f_X4_mirrorOf
  rw [if_neg hw]
  by_cases e1 : f_X3_placeOf x1 w M = -1
  · rw [if_pos e1, if_pos (Or.inl e1)]
  · rw [if_neg e1]
    by_cases e2 : f_X3_placeOf x1 w M / 40 = x2
    · rw [if_neg (show ¬ ¬ f_X3_placeOf x1 w M / 40 = x2 from fun q => q e2), if_neg (show ¬ (f_X3_placeOf x1 w M = -1 ∨ f_X3_placeOf x1 w M / 40 ≠ x2) from fun q => q.elim e1 (fun r => r e2))]
      by_cases e3 : f_X4_canFetch x1 M = true
      · rw [if_pos e3, e3]; rfl
      · rw [if_neg e3, show f_X4_canFetch x1 M = false by simpa using e3]; rfl
    · rw [if_pos e2, if_pos (Or.inr e2)]
theorem u_ctsB (x1 x2 x3 v : Int32) (k : Nat) (M : Mem) : l_X4_copyToSide_6 x1 x2 x3 (k + 1) v 2 M = (v, 2, M) := by
  show b_X4_copyToSide_6 x1 x2 x3 (l_X4_copyToSide_6 x1 x2 x3 k) v 2 M = _
  unfold b_X4_copyToSide_6
  rw [if_pos (by decide)]
theorem r_cts {n : Int} {x m s p : Int32} {M N : Mem} (hm : 0 ≤ m.toInt ∧ m.toInt < 3) (hs : s = 0 ∨ s = 1) (h : zRx n (2 * m.toNatClampNeg + s.toNatClampNeg) x M N) (hp : 0 ≤ p.toInt ∧ p.toInt < 53) :
    (f_X4_copyToSide p m s M).1 = (f_X5_copyBoth p m s N).1 ∧ zRx n (2 * m.toNatClampNeg + s.toNatClampNeg) x (f_X4_copyToSide p m s M).2 (f_X5_copyBoth p m s N).2 ∧ (f_X5_copyBoth p m s N).2 0 = N 0 := by
  have hN := y_pN hp
  have kc := h.2.1.1 _ hN
  have e4 : N 4 p.toNatClampNeg = M 11 p.toNatClampNeg := by rw [← h.1.2.2.1 _ hN]; simp [mup, mset]
  have e5 : N 5 p.toNatClampNeg = M 12 p.toNatClampNeg := by rw [← h.1.2.2.2.1 _ hN]; simp [mup, mset]
  have hd := h.2.1.2.2.2.1 _ hN
  unfold f_X4_copyToSide f_X5_copyBoth
  simp only [zlet]
  rw [e4, e5, u_ctsA p m s 0 0 2 M (by decide), y_01, u_pl0 hp]
  by_cases ha : M 11 p.toNatClampNeg = -1 ∨ M 11 p.toNatClampNeg / 40 ≠ m
  · rw [if_pos ha, u_ctsA p m s 0 1 1 M (by decide), y_12', u_pl1 hp, v_copy0 ha]
    simp only [e4, e5]
    by_cases hb : M 12 p.toNatClampNeg = -1 ∨ M 12 p.toNatClampNeg / 40 ≠ m
    · rw [if_pos hb, u_ctsB, v_copy0 hb]
      exact ⟨rfl, h, rfl⟩
    · rw [if_neg hb, u_ctsB]
      have b1 : M 12 p.toNatClampNeg ≠ -1 := fun q => hb (Or.inl q)
      have b2 : M 12 p.toNatClampNeg / 40 = m := Classical.not_not.mp (fun q => hb (Or.inr q))
      obtain ⟨r1, r2⟩ := r_copy hm hs h kc.2 b1 b2 kc.1 ha (f_X4_canFetch p M) (by
        rw [u_canFetch, u_pl0 hp, u_pl1 hp]
        cases f_X0_isGood (M 11 p.toNatClampNeg) 0 M <;> cases f_X0_isGood (M 11 p.toNatClampNeg) 1 M <;> cases f_X0_isGood (M 12 p.toNatClampNeg) 0 M <;> cases f_X0_isGood (M 12 p.toNatClampNeg) 1 M <;> rfl)
      rw [r1]
      exact ⟨rfl, r2, by simp [mup, mset]⟩
  · rw [if_neg ha]
    have a1 : M 11 p.toNatClampNeg ≠ -1 := fun q => ha (Or.inl q)
    have a2 : M 11 p.toNatClampNeg / 40 = m := Classical.not_not.mp (fun q => ha (Or.inr q))
    have hb : M 12 p.toNatClampNeg = -1 ∨ M 12 p.toNatClampNeg / 40 ≠ m := by
      by_cases q : M 12 p.toNatClampNeg = -1
      · exact Or.inl q
      · exact Or.inr (fun e => (hd q).2 (a2.trans e.symm))
    obtain ⟨r1, r2⟩ := r_copy hm hs h kc.1 a1 a2 kc.2 hb (f_X4_canFetch p M) (by
      rw [u_canFetch, u_pl0 hp, u_pl1 hp]
      cases f_X0_isGood (M 11 p.toNatClampNeg) 0 M <;> cases f_X0_isGood (M 11 p.toNatClampNeg) 1 M <;> cases f_X0_isGood (M 12 p.toNatClampNeg) 0 M <;> cases f_X0_isGood (M 12 p.toNatClampNeg) 1 M <;> rfl)
    have eb : (f_X0_mark (M 11 p.toNatClampNeg) s (!f_X4_canFetch p M) M) 12 = M 12 := by
      unfold f_X0_mark
      split
      · exact mset_ne (by decide)
      · rfl
    rw [r1, u_ctsA p m s _ 1 1 _ (by decide), y_12', u_pl1 hp, eb, if_pos hb, u_ctsB]
    have e5' : (mup N 9 (2 * (M 11 p.toNatClampNeg).toNatClampNeg + s.toNatClampNeg) (bI !f_X4_canFetch p M)) 5 = N 5 := mset_ne (by decide)
    simp only [e5', e5]
    rw [v_copy0 hb]
    exact ⟨rfl, r2, by simp [mup, mset]⟩
theorem r_behind {n : Int} {k : Nat} {x p : Int32} {M N : Mem} (h : zRx n k x M N) (hx : 0 ≤ x.toInt) (hp : 0 ≤ p.toInt ∧ p.toInt < 53) : f_X5_isBehind p x N = ! decide (f_X3_birthOf p M ≤ x) := by
  have hN := y_pN hp
  have e4 : N 4 p.toNatClampNeg = M 11 p.toNatClampNeg := by rw [← h.1.2.2.1 _ hN]; simp [mup, mset]
  have e6 : N 6 p.toNatClampNeg = M 14 p.toNatClampNeg := by rw [← h.1.2.2.2.2.2.1 _ hN]; simp [mup, mset]
  unfold f_X5_isBehind f_X5_isThere f_X3_birthOf
  rw [if_pos (q_isPointer.mpr hp), e4, e6]
  by_cases e : M 11 p.toNatClampNeg = -1
  · rw [if_pos e, if_neg (by decide), h.2.1.2.2.2.2.2.2.1.1 _ hN e]
    have : (0 : Int32) ≤ x := by rw [Int32.le_iff_toInt_le]; exact hx
    simp [this]
  · rw [if_neg e, if_pos rfl]
    by_cases q : M 14 p.toNatClampNeg ≤ x <;> simp [q]
theorem r_l26 {n : Int} {x m s f : Int32} (hf : 0 ≤ f.toInt ∧ f.toInt < 4) (hm : 0 ≤ m.toInt ∧ m.toInt < 3) (hs : s = 0 ∨ s = 1) (hx : 0 ≤ x.toInt) : ∀ (k : Nat) (base v v6 : Int32) (M N : Mem), zRx n (2 * m.toNatClampNeg + s.toNatClampNeg) x M N → 0 ≤ v6.toInt → v6.toInt ≤ 12 →
    (l_X5_online_128 m s x f k (base + v) (12 * f + v6) N).1 = base + (l_X4_resilverFile_26 f m s x k v v6 M).1 ∧ zRx n (2 * m.toNatClampNeg + s.toNatClampNeg) x (l_X4_resilverFile_26 f m s x k v v6 M).2.2 (l_X5_online_128 m s x f k (base + v) (12 * f + v6) N).2.2 ∧ (l_X5_online_128 m s x f k (base + v) (12 * f + v6) N).2.2 0 = N 0 := by
  intro k
  induction k with
  | zero => intro base v v6 M N h _ _; exact ⟨rfl, h, rfl⟩
  | succ k ih =>
    intro base v v6 M N h g0 g1
    show (b_X5_online_128 m s x f (l_X5_online_128 m s x f k) (base + v) (12 * f + v6) N).1 = base + (b_X4_resilverFile_26 f m s x (l_X4_resilverFile_26 f m s x k) v v6 M).1 ∧ zRx n (2 * m.toNatClampNeg + s.toNatClampNeg) x (b_X4_resilverFile_26 f m s x (l_X4_resilverFile_26 f m s x k) v v6 M).2.2 (b_X5_online_128 m s x f (l_X5_online_128 m s x f k) (base + v) (12 * f + v6) N).2.2 ∧ (b_X5_online_128 m s x f (l_X5_online_128 m s x f k) (base + v) (12 * f + v6) N).2.2 0 = N 0
    unfold b_X5_online_128 b_X4_resilverFile_26
    have e12 := z12 hf (b := 12) (by decide)
    have e4 := z12 hf (b := v6) ⟨g0, g1⟩
    simp only [Int32.reduceToInt] at e12
    have eg : (12 * f + 12 ≤ 12 * f + v6) ↔ 12 ≤ v6 := by
      rw [Int32.le_iff_toInt_le, Int32.le_iff_toInt_le, e12, e4]; simp only [Int32.reduceToInt]; omega
    by_cases hg : 12 ≤ v6
    · rw [if_pos hg, if_pos (eg.mpr hg)]; exact ⟨rfl, h, rfl⟩
    · rw [if_neg hg, if_neg (fun q => hg (eg.mp q))]
      have hv : v6.toInt < 12 := by rw [Int32.le_iff_toInt_le] at hg; simp only [Int32.reduceToInt] at hg; omega
      have hn := z_p1 hg
      have hp := y_bp3 (a := f) (b := v6) ⟨hf, g0, hv⟩
      rw [y_pt, r_behind h hx hp, Int32.add_assoc (12 * f) v6 1, Int32.add_zero]
      by_cases e : f_X3_birthOf (12 * f + v6) M ≤ x
      · rw [if_pos e, show (!decide (f_X3_birthOf (12 * f + v6) M ≤ x)) = false by simp [e], if_neg (by decide)]
        exact ih base v (v6 + 1) M N h (by omega) (by omega)
      · rw [if_neg e, show (!decide (f_X3_birthOf (12 * f + v6) M ≤ x)) = true by simp [e], if_pos rfl]
        simp only [zlet]
        obtain ⟨r1, r2, r3⟩ := r_cts hm hs h hp
        rw [← r1, Int32.add_assoc base]
        obtain ⟨i1, i2, i3⟩ := ih base (v + (f_X4_copyToSide (12 * f + v6) m s M).1) (v6 + 1) _ _ r2 (by omega) (by omega)
        exact ⟨i1, i2, i3.trans r3⟩
theorem r_outage {n : Int} {x m s : Int32} {M N : Mem} (hm : 0 ≤ m.toInt ∧ m.toInt < 3) (hs : s = 0 ∨ s = 1) (h : zRx n (2 * m.toNatClampNeg + s.toNatClampNeg) x M N) : f_X0_outageOf m s M = x := by
  unfold f_X0_outageOf
  rw [if_pos (q_isSideOfMirror.mpr ⟨hm, y_side hs⟩), (y_sd ⟨hm, y_side hs⟩).1]
  exact h.2.2.2
theorem r_l38 {n : Int} {x m s : Int32} (hm : 0 ≤ m.toInt ∧ m.toInt < 3) (hs : s = 0 ∨ s = 1) (hx : 0 ≤ x.toInt) : ∀ (k : Nat) (v v5 : Int32) (M N : Mem), zRx n (2 * m.toNatClampNeg + s.toNatClampNeg) x M N → 0 ≤ v5.toInt → v5.toInt ≤ 4 →
    (l_X5_online_86 m s x k v v5 N).1 = (l_X4_resilver_38 m s x k v v5 M).1 ∧ zRx n (2 * m.toNatClampNeg + s.toNatClampNeg) x (l_X4_resilver_38 m s x k v v5 M).2.2 (l_X5_online_86 m s x k v v5 N).2.2 ∧ (l_X5_online_86 m s x k v v5 N).2.2 0 = N 0 := by
  intro k
  induction k with
  | zero => intro v v5 M N h _ _; exact ⟨rfl, h, rfl⟩
  | succ k ih =>
    intro v v5 M N h g0 g1
    show (b_X5_online_86 m s x (l_X5_online_86 m s x k) v v5 N).1 = (b_X4_resilver_38 m s x (l_X4_resilver_38 m s x k) v v5 M).1 ∧ zRx n (2 * m.toNatClampNeg + s.toNatClampNeg) x (b_X4_resilver_38 m s x (l_X4_resilver_38 m s x k) v v5 M).2.2 (b_X5_online_86 m s x (l_X5_online_86 m s x k) v v5 N).2.2 ∧ (b_X5_online_86 m s x (l_X5_online_86 m s x k) v v5 N).2.2 0 = N 0
    unfold b_X5_online_86 b_X4_resilver_38
    by_cases hg : 4 ≤ v5
    · rw [if_pos hg, if_pos hg]; exact ⟨rfl, h, rfl⟩
    · rw [if_neg hg, if_neg hg]
      have hf := z_4 hg g0
      have hn := z_p1 hg
      have hp := y_fp hf
      rw [show f_X4_filePointer v5 = 48 + v5 from rfl, r_behind h hx hp]
      by_cases e : f_X3_birthOf (48 + v5) M ≤ x
      · rw [if_pos e, show (!decide (f_X3_birthOf (48 + v5) M ≤ x)) = false by simp [e], if_neg (by decide)]
        exact ih v (v5 + 1) M N h (by omega) (by omega)
      · rw [if_neg e, show (!decide (f_X3_birthOf (48 + v5) M ≤ x)) = true by simp [e], if_pos rfl]
        have e12 := z12 hf (b := 12) (by decide)
        simp only [Int32.reduceToInt] at e12
        have ef : ((12 * v5 + 12 : Int32).toInt - (12 * v5 : Int32).toInt).toNat + 1 = 13 := by rw [e12, z12' hf]; omega
        rw [ef]
        unfold f_X4_resilverFile
        simp only [zlet]
        obtain ⟨r1, r2, r3⟩ := r_cts hm hs h hp
        rw [show f_X4_filePointer v5 = 48 + v5 from rfl, r_outage hm hs h, ← r1]
        obtain ⟨i1, i2, i3⟩ := r_l26 hf hm hs hx 13 v (f_X4_copyToSide (48 + v5) m s M).1 0 _ _ r2 (by decide) (by decide)
        rw [Int32.add_zero] at i1 i2 i3
        rw [i1]
        obtain ⟨j1, j2, j3⟩ := ih (v + (l_X4_resilverFile_26 v5 m s x 13 (f_X4_copyToSide (48 + v5) m s M).1 0 (f_X4_copyToSide (48 + v5) m s M).2).1) (v5 + 1) _ _ i2 (by omega) (by omega)
        exact ⟨j1, j2, j3.trans (i3.trans r3)⟩
theorem zI_80 {n : Int} {k : Nat} {M : Mem} (h : zI n M) : zI n (mup M 8 k 0) := by
  obtain ⟨h1, h2, h3, h4, h5, h6, h7, h8, h9, h10, h11, h12⟩ := h
  refine ⟨by simpa [cU, mup, mset] using h1, by simpa [mup, mset] using h2, by simpa [mup, mset] using h3, by simpa [mup, mset] using h4, by simpa [mup, mset] using h5, by simpa [mup, mset] using h6, by simpa [mup, mset] using h7, ?_, by simpa [mup, mset] using h9, by simpa [mup, mset] using h10, by simpa [mup, mset] using h11, by simpa [mup, mset] using h12⟩
  intro m hm
  simp only [mup, mset_eq]
  rcases h8 m hm with q | q
  · left; unfold upd; split
    · rfl
    · exact q
  · right; unfold upd; split
    · rfl
    · exact q
theorem r_online {n : Int} {m s : Int32} {M N : Mem} (h : zRI n 0 M N) : zRI n 0 (f_X4_online m s M).2 (f_X5_online m s N).2 ∧ qA cE id (f_X4_online m s M).1 (f_X5_online m s N) := by
  unfold f_X4_online f_X5_online
  rw [e_sd]
  by_cases hb : f_X4_isSideOfMirror m s = true
  · have hr := q_isSideOfMirror.mp hb
    have hs := y_s01 hr.2
    obtain ⟨y1, y2, y3, y4⟩ := y_sd hr
    have h6 : 2 * m.toNatClampNeg + s.toNatClampNeg < 6 := by omega
    rw [if_pos hb, if_pos hb, u_on hr, y2, ← h.1.2.2.2.2.2.2.2.2.2.1 _ h6]
    by_cases e0 : M 8 (2 * m.toNatClampNeg + s.toNatClampNeg) = 0
    · rw [show decide (M 8 (2 * m.toNatClampNeg + s.toNatClampNeg) = 0) = true by simp [e0], if_pos rfl, if_pos e0]
      exact ⟨zRI_00 h, by simp [qA, cE, m00]⟩
    · rw [show decide (M 8 (2 * m.toNatClampNeg + s.toNatClampNeg) = 0) = false by simp [e0], if_neg (by decide), if_neg e0]
      have hx := h.2.2.2.2.2.2.2.2.2.1 _ h6
      have eo : (mup N 0 0 0) 11 (2 * m.toNatClampNeg + s.toNatClampNeg) = M 9 (2 * m.toNatClampNeg + s.toNatClampNeg) := by
        rw [h.1.2.2.2.2.2.2.2.2.2.2.1 _ h6]; simp [mup, mset]
      have hR : zRx n (2 * m.toNatClampNeg + s.toNatClampNeg) (M 9 (2 * m.toNatClampNeg + s.toNatClampNeg)) M (mup (mup N 0 0 0) 10 (2 * m.toNatClampNeg + s.toNatClampNeg) 0) := by
        refine ⟨?_, h.2, e0, rfl⟩
        obtain ⟨h1, h2, h3, h4, h5, h6, h7, h8, h9, h10, h11, h12, h13⟩ := zR_00 (x := 0) h.1
        refine ⟨by simpa [mup, mset] using h1, by simpa [mup, mset] using h2, by simpa [mup, mset] using h3, by simpa [mup, mset] using h4, by simpa [mup, mset] using h5, by simpa [mup, mset] using h6, by simpa [mup, mset] using h7, by simpa [mup, mset] using h8, by simpa [mup, mset] using h9, ?_, by simpa [mup, mset] using h11, by simpa [mup, mset] using h12, by simpa [mup, mset] using h13⟩
        intro j hj
        have e1 : (mup M 8 (2 * m.toNatClampNeg + s.toNatClampNeg) 0) 8 = upd (M 8) (2 * m.toNatClampNeg + s.toNatClampNeg) 0 := mset_eq _ _ _
        have e2 : (mup (mup N 0 0 0) 10 (2 * m.toNatClampNeg + s.toNatClampNeg) 0) 10 = upd ((mup N 0 0 0) 10) (2 * m.toNatClampNeg + s.toNatClampNeg) 0 := mset_eq _ _ _
        rw [e1, e2]; unfold upd; split
        · rfl
        · exact h10 j hj
      rw [eo, r_behind hR hx y_52]
      have fin : ∀ (M' N' : Mem) (v : Int32), zRx n (2 * m.toNatClampNeg + s.toNatClampNeg) (M 9 (2 * m.toNatClampNeg + s.toNatClampNeg)) M' N' → N' 0 = (mup N 0 0 0) 0 → zRI n 0 (zlet (f_X0_bringOnline m s M') fun N2 => ((.inl v : Int32 ⊕ String), N2)).2 (v, N').2 ∧ qA cE id (zlet (f_X0_bringOnline m s M') fun N2 => ((.inl v : Int32 ⊕ String), N2)).1 (v, N') := by
        intro M' N' v hz h0
        simp only [zlet]
        unfold f_X0_bringOnline
        rw [if_pos hb, y1]
        refine ⟨⟨hz.1, zI_80 hz.2.1⟩, rfl, ?_⟩
        show N' 0 0 = 0
        rw [h0, m00]
      have e10 : (mup (mup N 0 0 0) 10 (2 * m.toNatClampNeg + s.toNatClampNeg) 0) 0 = (mup N 0 0 0) 0 := mset_ne (by decide)
      unfold f_X4_resilver
      rw [r_outage hr.1 hs hR]
      by_cases e : f_X3_birthOf 52 M ≤ M 9 (2 * m.toNatClampNeg + s.toNatClampNeg)
      · rw [if_neg (by rw [Int32.lt_iff_toInt_lt]; rw [Int32.le_iff_toInt_le] at e; omega), show (!decide (f_X3_birthOf 52 M ≤ M 9 (2 * m.toNatClampNeg + s.toNatClampNeg))) = false by simp [e], if_neg (by decide)]
        exact fin M _ 0 hR e10
      · rw [if_pos (by rw [Int32.lt_iff_toInt_lt]; rw [Int32.le_iff_toInt_le] at e; omega), show (!decide (f_X3_birthOf 52 M ≤ M 9 (2 * m.toNatClampNeg + s.toNatClampNeg))) = true by simp [e], if_pos rfl]
        obtain ⟨r1, r2, r3⟩ := r_cts hr.1 hs hR y_52
        obtain ⟨i1, i2, i3⟩ := r_l38 hr.1 hs hx 5 (f_X4_copyToSide 52 m s M).1 0 _ _ r2 (by decide) (by decide)
        simp only [zlet] at fin ⊢
        rw [← r1, i1]
        exact fin _ _ _ i2 (i3.trans (r3.trans e10))
  · rw [if_neg hb, if_neg hb]
    exact ⟨zRI_00 h, by simp [qA, cE, m00]⟩
end
