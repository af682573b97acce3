/-! ===== PURE: what a sync does to a good pool, beyond zI ===== -/
section
/-- nodes and the root have two places where they have one -/
def S2 (M : Mem) : Prop := ∀ p, 48 ≤ p → p < 53 → M 18 p ≠ -1 → M 19 p ≠ -1
theorem mup_ne {M : Mem} {k i j : Nat} {v : Int32} (h : j ≠ k) : mup M k i v j = M j := by unfold mup; exact mset_ne h
theorem tk_same (x : Int32) (M : Mem) : ∀ j, j ≠ 16 → j ≠ 17 → (f_X1_takeBeside x M).2 j = M j := by
  intro j h1 h2
  unfold f_X1_takeBeside
  simp only [zlet]
  split
  · split
    · exact (mup_ne h1).trans (mup_ne h2)
    · rfl
  · rfl
theorem ch_two {M : Mem} {p : Nat} {c : Int32} (hp : p < 53) : (∀ k, k ≠ p → (f_X1_choose (nI p) c M).2 18 k = M 18 k ∧ (f_X1_choose (nI p) c M).2 19 k = M 19 k) ∧ ((f_X1_choose (nI p) c M).1 = true → 2 ≤ c → (f_X1_choose (nI p) c M).2 19 p ≠ -1) := by
  unfold f_X1_choose
  rw [if_pos (q_isPointer.mpr (nI_53 hp)), nI_clamp (by omega)]
  simp only [zlet]
  have t1 := tk_same (-1) M
  revert t1
  generalize f_X1_takeBeside (-1) M = q1
  intro t1
  have e1 : ∀ k, k ≠ p → mup q1.2 18 p q1.1 18 k = M 18 k ∧ mup q1.2 18 p q1.1 19 k = M 19 k := by
    intro k hk
    unfold mup
    rw [mset_eq, mset_ne (by decide), pk_un hk, t1 18 (by decide) (by decide), t1 19 (by decide) (by decide)]
    exact ⟨rfl, rfl⟩
  by_cases h1 : q1.1 = -1
  · rw [if_pos h1, if_pos h1]
    exact ⟨e1, fun z => by cases z⟩
  · rw [if_neg h1, if_neg h1]
    by_cases h2 : 2 ≤ c
    · rw [if_pos h2]
      have t2 := tk_same (f_X4_mirrorOf q1.1) (mup q1.2 18 p q1.1)
      revert t2
      generalize f_X1_takeBeside (f_X4_mirrorOf q1.1) (mup q1.2 18 p q1.1) = q2
      intro t2
      have e2 : ∀ k, k ≠ p → mup q2.2 19 p q2.1 18 k = M 18 k ∧ mup q2.2 19 p q2.1 19 k = M 19 k := by
        intro k hk
        have f1 : mup q2.2 19 p q2.1 18 k = q2.2 18 k := by unfold mup; rw [mset_ne (by decide)]
        have f2 : mup q2.2 19 p q2.1 19 k = q2.2 19 k := by unfold mup; rw [mset_eq, pk_un hk]
        rw [f1, f2, t2 18 (by decide) (by decide), t2 19 (by decide) (by decide)]
        exact e1 k hk
      by_cases h3 : mup q2.2 19 p q2.1 19 p = -1
      · rw [if_pos h3]
        exact ⟨e2, fun z => by cases z⟩
      · rw [if_neg h3]
        exact ⟨e2, fun _ _ => h3⟩
    · rw [if_neg h2]
      exact ⟨e1, fun _ z => absurd z h2⟩
theorem ch_S2 {M : Mem} {p : Nat} {c : Int32} (hp : p < 53) (h : S2 M) (hc : p < 48 ∨ (2 ≤ c ∧ (f_X1_choose (nI p) c M).1 = true)) : S2 (f_X1_choose (nI p) c M).2 := by
  obtain ⟨a1, a2⟩ := ch_two (M := M) (c := c) hp
  intro k hk hk2 h18
  by_cases e : k = p
  · subst e
    rcases hc with hc | ⟨hc, hb⟩
    · omega
    · exact a2 hb hc
  · rw [(a1 k e).1] at h18
    rw [(a1 k e).2]
    exact h k hk hk2 h18
theorem cf_S2 {f : Nat} {x : Int32} (hf : f < 4) : ∀ (j k b : Nat) (N : Mem), b + j = 12 → j + 1 ≤ k → S2 N → (∀ e, l_X4_chooseForFile_20 (nI f) x k (nI b) N = .inr e → S2 e.2) ∧ (∀ r, l_X4_chooseForFile_20 (nI f) x k (nI b) N = .inl r → r.1 = false) := by
  intro j
  induction j with
  | zero =>
    intro k b N hb hk h
    have e : b = 12 := by omega
    subst e
    cases k with
    | zero => omega
    | succ k =>
      have e1 : l_X4_chooseForFile_20 (nI f) x (k + 1) (nI 12) N = .inr (nI 12, N) := by
        show b_X4_chooseForFile_20 (nI f) x (l_X4_chooseForFile_20 (nI f) x k) (nI 12) N = _
        unfold b_X4_chooseForFile_20
        rw [if_pos (by decide)]
      rw [e1]
      exact ⟨fun e z => by cases z; exact h, fun r z => by cases z⟩
  | succ j ih =>
    intro k b N hb hk h
    cases k with
    | zero => omega
    | succ k =>
      have es : l_X4_chooseForFile_20 (nI f) x (k + 1) (nI b) N = b_X4_chooseForFile_20 (nI f) x (l_X4_chooseForFile_20 (nI f) x k) (nI b) N := rfl
      rw [es]
      unfold b_X4_chooseForFile_20
      rw [if_neg (nI_ge12 (by omega)), y_bpn, nI_1]
      simp only [zlet]
      generalize (if f_X2_holds (nI (12 * f + b)) N = true then (if f_X2_changeOf (nI (12 * f + b)) N = 0 then false else true) else false) = w
      cases w with
      | false => exact ih k (b + 1) N (by omega) (by omega) h
      | true =>
        simp only [if_true]
        have hS := ch_S2 (M := N) (p := 12 * f + b) (c := x) (by omega) h (Or.inl (by omega))
        revert hS
        generalize f_X1_choose (nI (12 * f + b)) x N = q
        intro hS
        cases hq : q.1 with
        | true => exact ih k (b + 1) q.2 (by omega) (by omega) hS
        | false => rw [if_neg (by decide)]; exact ⟨(fun e z => by cases z), (fun r z => by cases z; rfl)⟩
theorem cff_S2 {f : Nat} {N : Mem} (hf : f < 4) (h : S2 N) (ht : (f_X4_chooseForFile (nI f) N).1 = true) : S2 (f_X4_chooseForFile (nI f) N).2 := by
  have hx : f_X4_isFile (nI f) = true := q_isFile.mpr (nI_r (N := 4) hf (by decide))
  rw [u_cff hx] at ht ⊢
  obtain ⟨a1, a2⟩ := cf_S2 (x := N 5 (nI f).toNatClampNeg) hf 12 13 0 N (by omega) (by omega) h
  have z0 : nI 0 = (0 : Int32) := rfl
  rw [z0] at a1 a2
  revert a1 a2 ht
  generalize l_X4_chooseForFile_20 (nI f) (N 5 (nI f).toNatClampNeg) 13 0 N = r
  intro ht a1 a2
  cases r with
  | inl r =>
    have := a2 r rfl
    rw [show (Sum.elim (fun r => r) (fun e => if f_X4_hasData (nI f) e.2 = true then f_X1_choose (48 + nI f) 2 e.2 else (true, e.2)) (Sum.inl r : (Bool × Mem) ⊕ (Int32 × Mem))) = r from rfl] at ht
    rw [this] at ht
    cases ht
  | inr e =>
    have hS := a1 e rfl
    simp only [Sum.elim_inr] at ht ⊢
    have e48 : (48 : Int32) + nI f = nI (48 + f) := by rw [show (48 : Int32) = nI 48 from rfl, nI_add]
    rw [e48] at ht ⊢
    by_cases g : f_X4_hasData (nI f) e.2 = true
    · rw [if_pos g] at ht ⊢
      exact ch_S2 (by omega) hS (Or.inr ⟨by decide, ht⟩)
    · rw [if_neg g]; exact hS
theorem cp_S2 : ∀ (j k f : Nat) (N : Mem), f + j = 4 → j + 1 ≤ k → S2 N → (∀ e, l_X4_choosePlaces_13 k (nI f) N = .inr e → S2 e.2) ∧ (∀ r, l_X4_choosePlaces_13 k (nI f) N = .inl r → r.1 = false) := by
  intro j
  induction j with
  | zero =>
    intro k f N hb hk h
    have e : f = 4 := by omega
    subst e
    cases k with
    | zero => omega
    | succ k =>
      have e1 : l_X4_choosePlaces_13 (k + 1) (nI 4) N = .inr (nI 4, N) := by
        show b_X4_choosePlaces_13 (l_X4_choosePlaces_13 k) (nI 4) N = _
        unfold b_X4_choosePlaces_13
        rw [if_pos (by decide)]
      rw [e1]
      exact ⟨fun e z => by cases z; exact h, fun r z => by cases z⟩
  | succ j ih =>
    intro k f N hb hk h
    cases k with
    | zero => omega
    | succ k =>
      have es : l_X4_choosePlaces_13 (k + 1) (nI f) N = b_X4_choosePlaces_13 (l_X4_choosePlaces_13 k) (nI f) N := rfl
      rw [es]
      unfold b_X4_choosePlaces_13
      rw [if_neg (nI_ge4 (by omega)), nI_1]
      simp only [zlet]
      by_cases g : f_X2_changes (nI f) N = true
      · rw [if_pos g]
        have hS := fun z => cff_S2 (f := f) (N := N) (by omega) h z
        revert hS
        generalize f_X4_chooseForFile (nI f) N = q
        intro hS
        cases hq : q.1 with
        | true => exact ih k (f + 1) q.2 (by omega) (by omega) (hS hq)
        | false => rw [if_neg (by decide)]; exact ⟨(fun e z => by cases z), (fun r z => by cases z; rfl)⟩
      · rw [if_neg g]
        exact ih k (f + 1) N (by omega) (by omega) h
theorem choose_S2 {M : Mem} (ht : (f_X4_choosePlaces M).1 = true) : S2 (f_X4_choosePlaces M).2 := by
  have g : ∀ q : Bool × Mem, (if q.1 = true then (true, q.2) else (false, q.2)) = q := by
    rintro ⟨a, b⟩; cases a <;> rfl
  have eA : f_X4_choosePlaces M = Sum.elim (fun r => r) (fun e => if f_X4_hasDataAnywhere e.2 = true then f_X1_choose 52 2 e.2 else (true, e.2)) (l_X4_choosePlaces_13 5 0 (f_X1_begin M)) := by
    show Sum.elim (fun r => r) (fun e => if f_X4_hasDataAnywhere e.2 = true then (if (f_X1_choose 52 2 e.2).1 = true then (true, (f_X1_choose 52 2 e.2).2) else (false, (f_X1_choose 52 2 e.2).2)) else (true, e.2)) (l_X4_choosePlaces_13 5 0 (f_X1_begin M)) = _
    cases l_X4_choosePlaces_13 5 0 (f_X1_begin M) with
    | inl r => rfl
    | inr e => simp only [Sum.elim_inr, g]
  rw [eA] at ht ⊢
  have hb : S2 (f_X1_begin M) := fun p _ hp h => absurd ((u_begin M).2.1 p hp).1 h
  obtain ⟨a1, a2⟩ := cp_S2 4 5 0 (f_X1_begin M) (by omega) (by omega) hb
  have z0 : nI 0 = (0 : Int32) := rfl
  rw [z0] at a1 a2
  revert a1 a2 ht
  generalize l_X4_choosePlaces_13 5 0 (f_X1_begin M) = r
  intro ht a1 a2
  cases r with
  | inl r =>
    have := a2 r rfl
    rw [show (Sum.elim (fun r => r) (fun e => if f_X4_hasDataAnywhere e.2 = true then f_X1_choose 52 2 e.2 else (true, e.2)) (Sum.inl r : (Bool × Mem) ⊕ (Int32 × Mem))) = r from rfl] at ht
    rw [this] at ht
    cases ht
  | inr e =>
    have hS := a1 e rfl
    simp only [Sum.elim_inr] at ht ⊢
    have e52 : (52 : Int32) = nI 52 := rfl
    rw [e52] at ht ⊢
    by_cases g : f_X4_hasDataAnywhere e.2 = true
    · rw [if_pos g] at ht ⊢
      exact ch_S2 (by omega) hS (Or.inr ⟨by decide, ht⟩)
    · rw [if_neg g]; exact hS
/-- what is good beside zI -/
def zJ (P : Mem) : Prop :=
  (∀ k, k < 53 → P 11 k ≠ -1 → 0 < (P 14 k).toInt ∧ (P 14 k).toInt < (P 3 1).toInt) ∧ (∀ k, k < 48 → P 10 k ≠ 0 → P 11 k ≠ -1) ∧ (∀ f, f < 4 → P 11 (48 + f) ≠ -1 → P 12 (48 + f) ≠ -1) ∧
  (P 11 52 ≠ -1 → P 12 52 ≠ -1 ∧ ∃ f, f < 4 ∧ P 11 (48 + f) ≠ -1) ∧ (∀ k, k < 48 → 0 ≤ (P 10 k).toInt)
theorem zJ_congr {P P' : Mem} (h : zJ P) (h3 : P' 3 = P 3) (h10 : P' 10 = P 10) (h11 : P' 11 = P 11) (h12 : P' 12 = P 12) (h14 : P' 14 = P 14) : zJ P' := by
  unfold zJ at *
  rw [h3, h10, h11, h12, h14]
  exact h
theorem vN_ge {n : Int} {P : Mem} (h : zI n P) (j : zJ P) {k : Nat} (hk : k < 48) : 0 ≤ (vN P k).toInt := by
  unfold vN
  by_cases e : P 15 k = -1
  · rw [if_pos e]; exact j.2.2.2.2 k hk
  · rw [if_neg e]
    have h1 := h.2.2.2.2.2.2.2.2.2.2.1 k hk
    have h2 : (P 15 k).toInt ≠ -1 := fun z => e (Int32.toInt_inj.mp (by simpa using z))
    omega
theorem sm_nat {g : Nat → Int32} (h : ∀ p, ∃ w, w ≤ 2 ∧ g p = nI w) : ∀ n, ∃ w, w ≤ 2 * n ∧ sm g n = nI w := by
  intro n
  induction n with
  | zero => exact ⟨0, by omega, rfl⟩
  | succ n ih =>
    obtain ⟨w, h1, h2⟩ := ih
    obtain ⟨u, h3, h4⟩ := h n
    refine ⟨w + u, by omega, ?_⟩
    unfold sm
    rw [h2, h4, nI_add]
/-- a sync of a good pool -/
theorem sync_c {n : Int} {P : Mem} (h : zI n P) (j : zJ P) (hn : n + 1 < 2 ^ 31) :
    (∃ P', f_X4_sync P = (.inr "java/lang/IllegalStateException", P') ∧ FM P P') ∨
    ∃ (w : Nat) (P' : Mem), f_X4_sync P = (.inl (nI w), P') ∧ w ≤ 106 ∧ zJ P' ∧ (∀ k, k < 48 → P' 10 k = vN P k) ∧ ∀ k, k < 48 → P' 15 k = -1 := by
  obtain ⟨i1, i2, i3, i4, i5, i6, ⟨i7, i8, i9⟩, i10, i11, i12, i13, i14⟩ := id h
  obtain ⟨j1, j2, j3, j4, j5⟩ := id j
  have hg : ∀ Q : Mem, Q 3 = P 3 → (f_X2_close Q 3 1).toInt = (P 3 1).toInt + 1 := by
    intro Q hQ
    rw [(u_close Q).2.2, hQ]
    have := z_addI (a := P 3 1) (b := 1) (by simp; omega) (by simp; omega)
    simpa using this
  by_cases hc : ∃ f : Nat, f < 4 ∧ ch P f
  · obtain ⟨r1, r2, r3, r4⟩ := r_tries1 (zRI_n h) hc
    cases ht : (f_X4_choosePlaces P).1 with
    | false =>
      left
      refine ⟨(f_X4_choosePlaces P).2, ?_, r2⟩
      unfold f_X4_sync
      rw [if_neg (fun q => u_count0.mp q hc)]
      simp only [zlet]
      rw [ht]
      rfl
    | true =>
      right
      have hT := r4 ht
      have h2 := choose_S2 ht
      have eC : f_X4_sync P = (.inl (f_X4_writeChanges (f_X4_choosePlaces P).2).1, f_X2_close (f_X4_freeWhatIsNotPointedTo (f_X4_writeChanges (f_X4_choosePlaces P).2).2)) := by
        unfold f_X4_sync
        rw [if_neg (fun q => u_count0.mp q hc)]
        simp only [zlet]
        rw [ht]
        rfl
      rw [eC]
      revert hT h2
      generalize (f_X4_choosePlaces P).2 = M1
      generalize (f_X5_tries (nR P)).2 = N1
      intro hT h2
      have hV := (r_pre (zRI_n h) hT).1
      have hWS := r_wc hV
      have hUS := r_freeW (f_X4_writeChanges M1).2
      revert hWS hUS
      generalize (f_X4_writeChanges M1).1 = w
      generalize (f_X4_writeChanges M1).2 = M2
      generalize f_X4_freeWhatIsNotPointedTo M2 = M3
      intro hWS hUS
      obtain ⟨hC, hFN, hW, _, _, _⟩ := hT
      have hF : FM P M1 := hC.2.1
      have tr := W_tr hF hWS
      have val := W_val hF hWS
      obtain ⟨c1, c2, c3⟩ := u_close M3
      have e10 : f_X2_close M3 10 = M2 10 := by rw [c1 10 (by decide) (by decide), hUS.1 10 (by decide)]
      have e11 : f_X2_close M3 11 = M2 11 := by rw [c1 11 (by decide) (by decide), hUS.1 11 (by decide)]
      have e12 : f_X2_close M3 12 = M2 12 := by rw [c1 12 (by decide) (by decide), hUS.1 12 (by decide)]
      have e14 : f_X2_close M3 14 = M2 14 := by rw [c1 14 (by decide) (by decide), hUS.1 14 (by decide)]
      have f3 : M1 3 = P 3 := hF 3 (by decide) (by decide) (by decide) (by decide)
      have e3 : M3 3 = P 3 := by rw [hUS.1 3 (by decide), hWS.1.1 3 (by decide) (by decide) (by decide) (by decide) (by decide) (by decide), f3]
      have e31 := hg M3 e3
      have wW : ∀ p, p < 53 → (M1 18 p ≠ -1 ↔ want P p) := fun p hp => hW p hp (tau_lt hp)
      obtain ⟨wn, hw1, hw2⟩ := sm_nat (g := fun p => if dt M1 53 p = true then cw M1 p else 0) (fun p => by
        show ∃ w, w ≤ 2 ∧ (if dt M1 53 p = true then cw M1 p else 0) = nI w
        unfold cw
        split
        · split
          · exact ⟨0, by omega, rfl⟩
          · split
            · exact ⟨1, by omega, rfl⟩
            · exact ⟨2, by omega, rfl⟩
        · exact ⟨0, by omega, rfl⟩) 53
      have ew : w = nI wn := by rw [← hw2]; exact hWS.2
      refine ⟨wn, f_X2_close M3, by rw [ew], by omega, ⟨?_, ?_, ?_, ?_, ?_⟩, ?_, c2⟩
      · intro k hk
        rw [e11, e14, e31]
        intro ne
        by_cases wk : nw M1 k = true
        · obtain ⟨a1, _, a3⟩ := (tr k hk).1 wk
          rw [a1] at ne
          rw [a3, if_neg ne, f3]
          omega
        · obtain ⟨a1, _, a3⟩ := (tr k hk).2 wk
          rw [a1] at ne
          rw [a3]
          have := j1 k hk ne
          omega
      · intro k hk
        rw [e10, e11, val k hk]
        intro ne
        by_cases wk : nw M1 k = true
        · rw [((tr k (by omega)).1 wk).1]
          have h15 := (nw_b hF hk).mp wk
          refine (wW k (by omega)).mpr ((want_b hk).mpr ⟨h15, ?_⟩)
          unfold vN at ne
          rw [if_neg h15] at ne
          exact ne
        · rw [((tr k (by omega)).2 wk).1]
          have h15 := no15_nw hF hk wk
          unfold vN at ne
          rw [if_pos h15] at ne
          exact j2 k hk ne
      · intro f hf
        rw [e11, e12]
        by_cases wk : nw M1 (48 + f) = true
        · obtain ⟨a1, a2, _⟩ := (tr (48 + f) (by omega)).1 wk
          rw [a1, a2]
          exact h2 (48 + f) (by omega) (by omega)
        · obtain ⟨a1, a2, _⟩ := (tr (48 + f) (by omega)).2 wk
          rw [a1, a2]
          exact j3 f hf
      · rw [e11, e12]
        obtain ⟨a1, a2, _⟩ := (tr 52 (by omega)).1 (nw_r M1)
        rw [a1, a2]
        intro ne
        refine ⟨h2 52 (by omega) (by omega) ne, ?_⟩
        obtain ⟨f, hf, b, hb, hd⟩ := want_r.mp ((wW 52 (by omega)).mp ne)
        refine ⟨f, hf, ?_⟩
        by_cases wk : nw M1 (48 + f) = true
        · rw [((tr (48 + f) (by omega)).1 wk).1]
          exact (wW _ (by omega)).mpr ((want_n hf).mpr ⟨(nw_n hF hf).mp wk, b, hb, hd⟩)
        · rw [((tr (48 + f) (by omega)).2 wk).1]
          have wb : ¬ nw M1 (12 * f + b) = true := fun q => wk ((nw_n hF hf).mpr ⟨b, hb, (nw_b hF (by omega)).mp q⟩)
          have h15 := no15_nw hF (by omega) wb
          unfold vN at hd
          rw [if_pos h15] at hd
          exact i5 f b hf hb (j2 _ (by omega) hd)
      · intro k hk
        rw [e10, val k hk]
        exact vN_ge h j hk
      · intro k hk
        rw [e10, val k hk]
  · right
    have eC : f_X4_sync P = (.inl 0, f_X2_close P) := by
      unfold f_X4_sync; rw [if_pos (u_count0.mpr hc)]; rfl
    rw [eC]
    have m15 : ∀ k, k < 48 → P 15 k = -1 := by
      intro k hk
      by_cases q : P 15 k = -1
      · exact q
      · exact absurd ⟨k / 12, by omega, k % 12, by omega, by rw [show 12 * (k / 12) + k % 12 = k by omega]; exact q⟩ hc
    obtain ⟨c1, c2, c3⟩ := u_close P
    have e31 := hg P rfl
    have e10 := c1 10 (by decide) (by decide)
    have e11 := c1 11 (by decide) (by decide)
    have e12 := c1 12 (by decide) (by decide)
    have e14 := c1 14 (by decide) (by decide)
    refine ⟨0, f_X2_close P, rfl, by omega, ⟨?_, ?_, ?_, ?_, ?_⟩, ?_, c2⟩
    · intro k hk; rw [e11, e14, e31]; intro ne; have := j1 k hk ne; omega
    · rw [e10, e11]; exact j2
    · rw [e11, e12]; exact j3
    · rw [e11, e12]; exact j4
    · rw [e10]; exact j5
    · intro k hk
      rw [e10]
      unfold vN
      rw [if_pos (m15 k hk)]
end
