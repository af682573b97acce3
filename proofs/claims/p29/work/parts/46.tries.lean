section
/-! ===== PURE, sync: choosing, from the beginning to the root ===== -/
theorem cn_congr {f g : Nat → Int32} {a : Nat} (n : Nat) (h : ∀ i, i < n → f (a + i) = g (a + i)) : cn f a n = cn g a n := by
  induction n with
  | zero => rfl
  | succ n ih => unfold cn; rw [ih (fun i hi => h i (by omega)), h n (by omega)]
theorem sm_0 {g : Nat → Int32} : ∀ n, (∀ p, p < n → g p = 0) → sm g n = 0 := by
  intro n
  induction n with
  | zero => intro _; rfl
  | succ n ih => intro h; unfold sm; rw [ih (fun p hp => h p (by omega)), h n (by omega)]; rfl
theorem u_lb (k : Nat) (v : Int32) (N : Mem) (hv : ¬ 3 ≤ v) : l_X1_begin_26 (k + 1) v N = l_X1_begin_26 k (v + 1) (mup N 16 v.toNatClampNeg (f_X0_countFree v N)) := by
  show b_X1_begin_26 (l_X1_begin_26 k) v N = _
  unfold b_X1_begin_26
  rw [if_neg hv]
theorem u_lb3 (k : Nat) (N : Mem) : l_X1_begin_26 (k + 1) 3 N = (3, N) := by
  show b_X1_begin_26 (l_X1_begin_26 k) 3 N = _
  unfold b_X1_begin_26
  rw [if_pos (by decide)]
theorem y_23 : (2 : Int32) + 1 = 3 := by decide
theorem u_rooms (N : Mem) : (∀ j, j ≠ 16 → (l_X1_begin_26 4 0 N).2 j = N j) ∧ ∀ m, m < 3 → ((l_X1_begin_26 4 0 N).2 16 m).toInt = cn (N 6) (40 * m) 40 := by
  rw [u_lb 3 0 N (by decide), y_01, u_lb 2 1 _ (by decide), y_12', u_lb 1 2 _ (by decide), y_23, u_lb3]
  have z0 : ((0 : Int32).toNatClampNeg) = 0 := rfl
  have z1 : ((1 : Int32).toNatClampNeg) = 1 := rfl
  have z2 : ((2 : Int32).toNatClampNeg) = 2 := rfl
  rw [z0, z1, z2]
  constructor
  · intro j hj; simp [mup, mset, hj]
  · intro m hm
    have c0 := u_cf (a := 0) (M := N) (by decide)
    have c1 := u_cf (a := 1) (M := mup N 16 0 (f_X0_countFree 0 N)) (by decide)
    have c2 := u_cf (a := 2) (M := mup (mup N 16 0 (f_X0_countFree 0 N)) 16 1 (f_X0_countFree 1 (mup N 16 0 (f_X0_countFree 0 N)))) (by decide)
    rw [z0] at c0
    rw [z1, show (mup N 16 0 (f_X0_countFree 0 N)) 6 = N 6 by simp [mup, mset]] at c1
    rw [z2, show (mup (mup N 16 0 (f_X0_countFree 0 N)) 16 1 (f_X0_countFree 1 (mup N 16 0 (f_X0_countFree 0 N)))) 6 = N 6 by simp [mup, mset]] at c2
    rcases (by omega : m = 0 ∨ m = 1 ∨ m = 2) with rfl | rfl | rfl
    · rw [← c0]; simp [mup, mset, upd]
    · rw [← c1]; simp [mup, mset, upd]
    · rw [← c2]; simp [mup, mset, upd]
theorem u_begin (M : Mem) : FM M (f_X1_begin M) ∧ (∀ p, p < 53 → f_X1_begin M 18 p = -1 ∧ f_X1_begin M 19 p = -1) ∧ ∀ m, m < 3 → f_X1_begin M 17 m = 0 ∧ (f_X1_begin M 16 m).toInt = cn (M 6) (40 * m) 40 := by
  have e1 := u_lf18 (-1) 53 54 0 M (by decide) (by decide)
  have e2 := u_lf19 (-1) 53 54 0 (f_J7_fill_53178_18 (-1) M) (by decide) (by decide)
  have e3 := u_lf17 0 3 4 0 (f_J7_fill_53178_19 (-1) (f_J7_fill_53178_18 (-1) M)) (by decide) (by decide)
  obtain ⟨r1, r2⟩ := u_rooms (f_J7_fill_53178_17 0 (f_J7_fill_53178_19 (-1) (f_J7_fill_53178_18 (-1) M)))
  have eB : f_X1_begin M = (l_X1_begin_26 4 0 (f_J7_fill_53178_17 0 (f_J7_fill_53178_19 (-1) (f_J7_fill_53178_18 (-1) M)))).2 := rfl
  rw [eB]
  have d1 : f_J7_fill_53178_18 (-1) M = (l_J7_fill_53178_18_5 (-1) 53 54 0 M).2 := rfl
  have d2 : f_J7_fill_53178_19 (-1) (f_J7_fill_53178_18 (-1) M) = (l_J7_fill_53178_19_5 (-1) 53 54 0 (f_J7_fill_53178_18 (-1) M)).2 := rfl
  have d3 : f_J7_fill_53178_17 0 (f_J7_fill_53178_19 (-1) (f_J7_fill_53178_18 (-1) M)) = (l_J7_fill_53178_17_5 0 3 4 0 (f_J7_fill_53178_19 (-1) (f_J7_fill_53178_18 (-1) M))).2 := rfl
  rw [← d1] at e1
  rw [← d2] at e2
  rw [← d3] at e3
  have z0 : ((0 : Int32).toNatClampNeg) = 0 := rfl
  have t53 : (53 : Int32).toInt = 53 := by decide
  have t3 : (3 : Int32).toInt = 3 := by decide
  refine ⟨?_, ?_, ?_⟩
  · intro j j1 j2 j3 j4
    rw [r1 j j1, e3, mset_ne j2, e2, mset_ne j4, e1, mset_ne j3]
  · intro p hp
    rw [r1 18 (by decide), r1 19 (by decide), e3, mset_ne (by decide), mset_ne (by decide), e2, mset_ne (by decide), mset_eq, e1, mset_eq, z0, t53]
    constructor
    · rw [if_pos (by omega)]
    · rw [if_pos (by omega)]
  · intro m hm
    rw [r1 17 (by decide), r2 m hm, e3, mset_eq, mset_ne (by decide), e2, mset_ne (by decide), e1, mset_ne (by decide), z0, t3]
    exact ⟨by rw [if_pos (by omega)], rfl⟩
/-- the reference's beginning -/
theorem v_begin (N : Mem) : (∀ j, j < 120 → (l_X5_tries_33 54 0 (l_X5_tries_7 121 0 (mup N 0 19 0)).2).2 12 j = vp_nar .boolean (N 8 j)) ∧
    (∀ p, p < 53 → (l_X5_tries_33 54 0 (l_X5_tries_7 121 0 (mup N 0 19 0)).2).2 14 p = -1 ∧ (l_X5_tries_33 54 0 (l_X5_tries_7 121 0 (mup N 0 19 0)).2).2 15 p = -1 ∧ (l_X5_tries_33 54 0 (l_X5_tries_7 121 0 (mup N 0 19 0)).2).2 16 p = 0) ∧
    (∀ j, j ≠ 0 → j ≠ 12 → j ≠ 14 → j ≠ 15 → j ≠ 16 → (l_X5_tries_33 54 0 (l_X5_tries_7 121 0 (mup N 0 19 0)).2).2 j = N j) ∧
    ∀ i, (l_X5_tries_33 54 0 (l_X5_tries_7 121 0 (mup N 0 19 0)).2).2 0 i = if i = 19 then 0 else N 0 i := by
  have e7 := v_l7 121 0 (mup N 0 19 0) (by decide) (by decide)
  have e33 := v_l33 54 0 (l_X5_tries_7 121 0 (mup N 0 19 0)).2 (by decide) (by decide)
  have z0 : ((0 : Int32).toNatClampNeg) = 0 := rfl
  rw [z0] at e7 e33
  refine ⟨?_, ?_, ?_, ?_⟩
  · intro j hj
    rw [e33, if_neg (by omega), e7, mset_eq, if_pos (by omega)]
    simp [mup, mset]
  · intro p hp
    refine ⟨?_, ?_, ?_⟩
    · rw [e33, if_pos ⟨by omega, by omega, hp⟩, if_neg (by decide)]
    · rw [e33, if_pos ⟨by omega, by omega, hp⟩, if_neg (by decide)]
    · rw [e33, if_pos ⟨by omega, by omega, hp⟩, if_pos rfl]
  · intro j j0 j12 j14 j15 j16
    funext i
    rw [e33, if_neg (by omega), e7, mset_ne j12]
    simp [mup, mset, j0]
  · intro i
    rw [e33, if_neg (by omega), e7, mset_ne (by decide)]
    simp [mup, mset, upd]
theorem r_begin {n : Int} {M0 N0 : Mem} (h : zRI n 0 M0 N0) : CH M0 0 (f_X1_begin M0) (l_X5_tries_33 54 0 (l_X5_tries_7 121 0 (mup N0 0 19 0)).2).2 ∧ FN N0 (l_X5_tries_33 54 0 (l_X5_tries_7 121 0 (mup N0 0 19 0)).2).2 := by
  obtain ⟨a1, a2, a3⟩ := u_begin M0
  obtain ⟨b1, b2, b3, b4⟩ := v_begin N0
  revert a1 a2 a3 b1 b2 b3 b4
  generalize f_X1_begin M0 = P
  generalize (l_X5_tries_33 54 0 (l_X5_tries_7 121 0 (mup N0 0 19 0)).2).2 = T
  intro a1 a2 a3 b1 b2 b3 b4
  have hu := h.2.2.1
  have b12 : ∀ c, c < 120 → T 12 c = M0 6 c := by
    intro c hc
    rw [b1 c hc, ← h.1.2.2.2.2.2.2.2.1 c hc]
    rcases hu c hc with e | ⟨e, _⟩ <;> rw [e] <;> rfl
  have a6 := a1 6 (by decide) (by decide) (by decide) (by decide)
  refine ⟨⟨?_, a1, ?_, ?_, ?_, ?_, ?_, ?_, ?_, ?_⟩, ?_, ?_, ?_, ?_⟩
  · intro m hm
    rw [(a3 m hm).1, (a3 m hm).2, a6]
    refine ⟨?_, by decide, ?_⟩
    · rw [cn_congr 40 (fun i hi => b12 (40 * m + i) (by omega))]
    · intro c hc
      refine ⟨fun q => ?_, fun _ => b12 _ (by omega)⟩
      simp only [Int32.reduceToInt] at q; omega
  · intro p hp; exact ⟨(a2 p hp).1.trans (b2 p hp).1.symm, (a2 p hp).2.trans (b2 p hp).2.1.symm⟩
  · intro c hc
    rw [b12 c hc]
    rcases hu c hc with e | ⟨e, _⟩
    · exact Or.inl e
    · exact Or.inr e
  · intro c hc
    rw [b12 c hc]
    constructor
    · intro q
      rcases hu c hc with e | ⟨e, _⟩
      · exact absurd e q
      · exact Or.inl e
    · rintro (q | ⟨p, hp, q⟩)
      · rw [q]; decide
      · rw [(a2 p hp).1, (a2 p hp).2] at q
        rcases q with q | q <;> exact absurd q.symm (nI_neg hc)
  · intro p hp _; exact a2 p hp
  · intro p hp; exact ⟨Or.inl (a2 p hp).1, Or.inl (a2 p hp).2⟩
  · intro k l hk hl
    rw [(a2 k hk).1, (a2 k hk).2]
    exact ⟨fun _ q => absurd rfl q, fun _ q => absurd rfl q, fun _ => rfl⟩
  · intro k hk q; exact absurd (a2 k hk).2 q
  · rw [b4, if_pos rfl, sm_0 53 (fun p hp => by unfold cw; rw [if_pos (a2 p hp).1])]
  · exact b3
  · intro i hi; rw [b4, if_neg hi]
  · intro k hk; rw [(b2 k hk).1]; decide
  · intro k hk; rw [(b2 k hk).2.1]; decide
theorem SY_of {n : Int} {M0 N0 : Mem} (h : zRI n 0 M0 N0) : SY M0 N0 := ⟨h.1, h.2.2.2.2.2.2.2.2.2.2.2.1, h.2.2.2.2.2.2.2.2.2.2.2.2⟩
theorem r_ch0 {n : Int} {M0 N0 : Mem} (h : zRI n 0 M0 N0) : LF M0 N0 (l_X4_choosePlaces_13 5 0 (f_X1_begin M0)) (l_X5_tries_75 5 true false false 0 (l_X5_tries_33 54 0 (l_X5_tries_7 121 0 (mup N0 0 19 0)).2).2) := by
  obtain ⟨h1, h2⟩ := r_begin h
  obtain ⟨_, b2, _, _⟩ := v_begin N0
  refine r_lfiles (SY_of h) 5 0 false false 0 _ _ rfl (by omega) (by omega) h1 h2 ?_ ?_ ?_ ?_ ?_ ?_
  · intro p _ q; omega
  · intro p hp; exact ⟨fun q => by omega, fun _ => (b2 p (by omega)).2.2⟩
  · intro f hf; exact ⟨fun q => by omega, fun _ => (b2 (48 + f) (by omega)).2.2⟩
  · exact (b2 52 (by omega)).2.2
  · exact ⟨fun q => absurd q (by decide), fun ⟨f, q, _⟩ => by omega⟩
  · exact ⟨fun q => absurd q (by decide), fun ⟨f, q, _⟩ => by omega⟩
/-- what a sync's choice leaves; ok: every place found -/
def TS (M0 N0 : Mem) (t : Nat) (y : Int32) (M N : Mem) : Prop := CH M0 t M N ∧ FN N0 N ∧ WT M0 t M ∧ GB M0 t N ∧ GF M0 4 N ∧ N 16 52 = y
theorem u_13no {M : Mem} (hc : ¬ ∃ f : Nat, f < 4 ∧ ch M f) : ∀ (k : Nat) (v : Int32), 0 ≤ v.toInt → ∃ w, l_X4_choosePlaces_13 k v M = .inr (w, M) := by
  intro k
  induction k with
  | zero => intro v _; exact ⟨v, rfl⟩
  | succ k ih =>
    intro v h0
    show ∃ w, b_X4_choosePlaces_13 (l_X4_choosePlaces_13 k) v M = .inr (w, M)
    unfold b_X4_choosePlaces_13
    by_cases hg : 4 ≤ v
    · rw [if_pos hg]; exact ⟨v, rfl⟩
    · have hn := z_p1 hg
      have hx := z_4 hg h0
      have hxN : v.toNatClampNeg < 4 := by simp only [Int32.toNatClampNeg]; omega
      rw [if_neg hg, if_neg (fun q => hc ⟨_, hxN, (u_ch hx).mp q⟩)]
      exact ih (v + 1) (by omega)
theorem r_tries0 {n : Int} {M0 N0 : Mem} (h : zRI n 0 M0 N0) (hc : ¬ ∃ f : Nat, f < 4 ∧ ch M0 f) : (f_X5_tries N0).1 = true ∧ ∃ M, TS M0 N0 52 0 M (f_X5_tries N0).2 := by
  have L := r_ch0 h
  have hno := u_13no (M := f_X1_begin M0) (fun ⟨f, f1, f2⟩ => hc ⟨f, f1, (ch_FM (u_begin M0).1).mp f2⟩) 5 0 (by decide)
  unfold f_X5_tries
  simp only [zlet]
  revert hno L
  generalize l_X4_choosePlaces_13 5 0 (f_X1_begin M0) = a
  generalize l_X5_tries_75 5 true false false 0 (l_X5_tries_33 54 0 (l_X5_tries_7 121 0 (mup N0 0 19 0)).2).2 = b
  intro L hno
  rcases L with ⟨M', r1, r2, r3, r4⟩ | ⟨M', w, r1, r2, r3, r4, r5, r6, r7, r8, r9, r10⟩
  · obtain ⟨w, q⟩ := hno
    rw [r1] at q; cases q
  · have e1 : b.2.1 = false := by
      cases q : b.2.1 with
      | false => rfl
      | true => exact absurd (r3.mp q) hc
    rw [r2, e1]
    simp only [if_true, Bool.false_eq_true, if_false]
    have e16 : mup b.2.2.2.2 16 (52 : Int32).toNatClampNeg (bI false) = b.2.2.2.2 := by
      show mset b.2.2.2.2 16 (upd (b.2.2.2.2 16) 52 0) = b.2.2.2.2
      have : upd (b.2.2.2.2 16) 52 0 = b.2.2.2.2 16 := by
        funext j; unfold upd; split
        · rename_i q; rw [q, r10]
        · rfl
      rw [this, mset_self]
    rw [e16]
    exact ⟨trivial, M', r5, r6, r7, r8, r9, r10⟩
theorem CH_FM {M0 : Mem} {t : Nat} {M N : Mem} (h : CH M0 t M N) : FM M0 M := h.2.1
theorem r_tries1 {n : Int} {M0 N0 : Mem} (h : zRI n 0 M0 N0) (hc : ∃ f : Nat, f < 4 ∧ ch M0 f) : (f_X4_choosePlaces M0).1 = (f_X5_tries N0).1 ∧ FM M0 (f_X4_choosePlaces M0).2 ∧ FN N0 (f_X5_tries N0).2 ∧
    ((f_X4_choosePlaces M0).1 = true → TS M0 N0 53 1 (f_X4_choosePlaces M0).2 (f_X5_tries N0).2) := by
  have L := r_ch0 h
  have g : ∀ q : Bool × Mem, (if q.1 = true then (true, q.2) else (false, q.2)) = q := by
    rintro ⟨a, b⟩; cases a <;> rfl
  have eA : f_X4_choosePlaces M0 = Sum.elim (fun r => r) (fun e => if f_X4_hasDataAnywhere e.2 = true then f_X1_choose 52 2 e.2 else (true, e.2)) (l_X4_choosePlaces_13 5 0 (f_X1_begin M0)) := by
    show Sum.elim (fun r => r) (fun e => if f_X4_hasDataAnywhere e.2 = true then (if (f_X1_choose 52 2 e.2).1 = true then (true, (f_X1_choose 52 2 e.2).2) else (false, (f_X1_choose 52 2 e.2).2)) else (true, e.2)) (l_X4_choosePlaces_13 5 0 (f_X1_begin M0)) = _
    cases l_X4_choosePlaces_13 5 0 (f_X1_begin M0) with
    | inl r => rfl
    | inr e => simp only [Sum.elim_inr, g]
  rw [eA]
  unfold f_X5_tries
  simp only [zlet]
  revert L
  generalize l_X4_choosePlaces_13 5 0 (f_X1_begin M0) = a
  generalize l_X5_tries_75 5 true false false 0 (l_X5_tries_33 54 0 (l_X5_tries_7 121 0 (mup N0 0 19 0)).2).2 = b
  intro L
  have z52 : (52 : Int32).toNatClampNeg = 52 := rfl
  rw [z52]
  rcases L with ⟨M', r1, r2, r3, r4⟩ | ⟨M', w, r1, r2, r3, r4, r5, r6, r7, r8, r9, r10⟩
  · rw [r1, r2]
    simp only [Sum.elim_inl, Bool.false_eq_true, if_false]
    exact ⟨trivial, r3, FN_16 r4, fun q => False.elim q⟩
  · have e1 : b.2.1 = true := r3.mpr hc
    rw [r1, r2, e1]
    simp only [Sum.elim_inr, if_true]
    have hda : f_X4_hasDataAnywhere M' = true ↔ ∃ f : Nat, f < 4 ∧ hd M0 f := by
      rw [u_hda]
      constructor
      · rintro ⟨f, f1, f2⟩; exact ⟨f, f1, (hd_FM r5.2.1).mp f2⟩
      · rintro ⟨f, f1, f2⟩; exact ⟨f, f1, (hd_FM r5.2.1).mpr f2⟩
    have n16 : (mup b.2.2.2.2 16 52 (bI true)) 16 = upd (b.2.2.2.2 16) 52 1 := by simp [mup, mset, bI]
    have hC1 : CH M0 52 M' (mup b.2.2.2.2 16 52 (bI true)) := CH_N r5 (by simp [mup, mset]) (by simp [mup, mset]) (by simp [mup, mset]) (by simp [mup, mset])
    have hF1 : FN N0 (mup b.2.2.2.2 16 52 (bI true)) := FN_16 r6
    have hbi : ∀ p, p < 53 → tau p = 52 → p = 52 := by
      intro p hp q
      unfold tau at q
      split at q
      · omega
      · split at q <;> omega
    have t52 : tau 52 = 52 := rfl
    have hGB : ∀ N', (∀ p, p < 52 → N' 16 p = b.2.2.2.2 16 p) → GB M0 53 N' ∧ GF M0 4 N' := by
      intro N' hN'
      refine ⟨?_, ?_⟩
      · intro p hp
        rw [hN' p (by omega)]
        have : tau p < 52 := by unfold tau; rw [if_pos hp]; omega
        exact ⟨fun _ => (r8 p hp).1 this, fun q => by omega⟩
      · intro f hf
        rw [hN' _ (by omega)]
        exact r9 f hf
    have wE : want M0 52 ↔ ∃ f : Nat, f < 4 ∧ hd M0 f := by
      unfold want
      rw [if_neg (by omega), if_neg (by omega)]
    have fr := r5.2.2.2.2.2.1 52 (by omega) (Nat.le_refl _)
    revert n16 hC1 hF1
    generalize mup b.2.2.2.2 16 52 (bI true) = N1
    intro n16 hC1 hF1
    by_cases hdA : ∃ f : Nat, f < 4 ∧ hd M0 f
    · rw [if_pos (hda.mpr hdA), if_pos (r4.mpr hdA)]
      obtain ⟨c1, c2, c3, c4, c5, c6⟩ := r_choose (n3 := 2) (two := true) (p := 52) hC1 hF1 y_52 t52 (by decide)
      rw [z52] at c4 c5 c6
      revert c1 c2 c3 c4 c5 c6
      generalize (f_X1_choose 52 2 M').1 = a1
      generalize (f_X1_choose 52 2 M').2 = a2
      generalize (f_X5_tryOut 52 true N1).1 = b1
      generalize (f_X5_tryOut 52 true N1).2 = b2
      intro c1 c2 c3 c4 c5 c6
      subst c1
      cases a1 with
      | false =>
        simp only [Bool.false_eq_true, if_false]
        exact ⟨trivial, c2, c3, fun q => False.elim q⟩
      | true =>
        simp only [if_true]
        obtain ⟨c7, c8⟩ := c6 rfl
        obtain ⟨g1, g2⟩ := hGB b2 (fun p hp => by rw [c4, pk_un (by omega), n16, pk_un (by omega)])
        exact ⟨trivial, c2, c3, fun _ => ⟨c7, c3, WT_yes r7 hbi t52 c8 c5 (wE.mpr hdA), g1, g2, by rw [c4, pk_us]⟩⟩
    · rw [if_neg (fun q => hdA (hda.mp q)), if_neg (fun q => hdA (r4.mp q))]
      obtain ⟨g1, g2⟩ := hGB N1 (fun p hp => by rw [n16, pk_un (by omega)])
      exact ⟨rfl, hC1.2.1, hF1, fun _ => ⟨CH_mono hC1 (by omega), hF1, WT_no r7 hbi fr.1 (fun q => hdA (wE.mp q)), g1, g2, (show N1 16 52 = 1 by rw [n16, pk_us])⟩⟩
end
