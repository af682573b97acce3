section
/-! ===== PURE, sync: choosing for a file ===== -/
def want (M0 : Mem) (p : Nat) : Prop := if p < 48 then M0 15 p ≠ -1 ∧ M0 15 p ≠ 0 else if p < 52 then ch M0 (p - 48) ∧ hd M0 (p - 48) else ∃ f : Nat, f < 4 ∧ hd M0 f
def WT (M0 : Mem) (t : Nat) (M : Mem) : Prop := ∀ p, p < 53 → tau p < t → (M 18 p ≠ -1 ↔ want M0 p)
def GB (M0 : Mem) (t : Nat) (N : Mem) : Prop := ∀ p, p < 48 → (tau p < t → N 16 p = if M0 15 p = -1 then 0 else 1) ∧ (t ≤ tau p → N 16 p = 0)
theorem CH_N {M0 : Mem} {t : Nat} {M N N' : Mem} (h : CH M0 t M N) (h12 : N' 12 = N 12) (h14 : N' 14 = N 14) (h15 : N' 15 = N 15) (h0 : N' 0 19 = N 0 19) : CH M0 t M N' := by
  unfold CH at *
  rw [h12, h14, h15, h0]
  exact ⟨TK_same h.1 rfl rfl rfl h12, h.2⟩
theorem CH_mono {M0 : Mem} {t t' : Nat} {M N : Mem} (h : CH M0 t M N) (ht : t ≤ t') : CH M0 t' M N := by
  obtain ⟨a1, a2, a3, a4, a5, a6, a7, a8, a9, a10⟩ := h
  exact ⟨a1, a2, a3, a4, a5, fun p hp h => a6 p hp (by omega), a7, a8, a9, a10⟩
theorem FN_16 {N0 N : Mem} {k : Nat} {x : Int32} (h : FN N0 N) : FN N0 (mup N 16 k x) := by
  refine ⟨fun j j1 j2 j3 j4 j5 => ?_, fun i hi => ?_, ?_, ?_⟩
  · unfold mup; rw [mset_ne j5]; exact h.1 j j1 j2 j3 j4 j5
  · rw [← h.2.1 i hi]; simp [mup, mset]
  · have : (mup N 16 k x) 14 = N 14 := by simp [mup, mset]
    rw [this]; exact h.2.2.1
  · have : (mup N 16 k x) 15 = N 15 := by simp [mup, mset]
    rw [this]; exact h.2.2.2
theorem zR_FN {d : Int32} {M0 N0 N : Mem} (h : zR d M0 N0) (hF : FN N0 N) : zR d M0 N := by
  have g := hF.1
  have g0 := hF.2.1
  unfold zR at *
  rw [g 3 (by decide) (by decide) (by decide) (by decide) (by decide), g 2 (by decide) (by decide) (by decide) (by decide) (by decide), g 4 (by decide) (by decide) (by decide) (by decide) (by decide), g 5 (by decide) (by decide) (by decide) (by decide) (by decide), g 7 (by decide) (by decide) (by decide) (by decide) (by decide), g 6 (by decide) (by decide) (by decide) (by decide) (by decide), g 1 (by decide) (by decide) (by decide) (by decide) (by decide), g 8 (by decide) (by decide) (by decide) (by decide) (by decide), g 9 (by decide) (by decide) (by decide) (by decide) (by decide), g 10 (by decide) (by decide) (by decide) (by decide) (by decide), g 11 (by decide) (by decide) (by decide) (by decide) (by decide), g0 1 (by decide), g0 2 (by decide)]
  exact h
theorem hd_FM {M0 M : Mem} {f : Nat} (h : FM M0 M) : hd M f ↔ hd M0 f := by
  unfold hd vN; rw [h 15 (by decide) (by decide) (by decide) (by decide), h 10 (by decide) (by decide) (by decide) (by decide)]
theorem ch_FM {M0 M : Mem} {f : Nat} (h : FM M0 M) : ch M f ↔ ch M0 f := by
  unfold ch; rw [h 15 (by decide) (by decide) (by decide) (by decide)]
theorem v_133F (a : Int32) (j : Bool) (x : Int32) (k : Nat) (v : Int32) (N : Mem) : (l_X5_tries_133 a j x k false v N).1 = false ∧ (l_X5_tries_133 a j x k false v N).2.2 = N := by
  cases k with
  | zero => exact ⟨rfl, rfl⟩
  | succ k =>
    show (b_X5_tries_133 a j x (l_X5_tries_133 a j x k) false v N).1 = false ∧ (b_X5_tries_133 a j x (l_X5_tries_133 a j x k) false v N).2.2 = N
    unfold b_X5_tries_133
    split
    · exact ⟨rfl, rfl⟩
    · rw [if_neg (by decide)]; exact ⟨rfl, rfl⟩
theorem tau_b {f i : Nat} (hf : f < 4) (hi : i < 12) : tau (12 * f + i) = 13 * f + i := by
  unfold tau; rw [if_pos (by omega)]; omega
theorem tau_bi {f i p : Nat} (hf : f < 4) (hi : i < 12) (hp : p < 53) (h : tau p = 13 * f + i) : p = 12 * f + i := by
  unfold tau at h
  split at h
  · omega
  · split at h <;> omega
theorem WT_no {M0 M : Mem} {t p0 : Nat} (h : WT M0 t M) (hb : ∀ p, p < 53 → tau p = t → p = p0) (hf : M 18 p0 = -1) (hw : ¬ want M0 p0) : WT M0 (t + 1) M := by
  intro p hp ht
  by_cases e : tau p = t
  · rw [hb p hp e, hf]
    exact ⟨fun q => absurd rfl q, fun q => absurd q hw⟩
  · exact h p hp (by omega)
theorem WT_yes {M0 M M' : Mem} {t p0 : Nat} (h : WT M0 t M) (hb : ∀ p, p < 53 → tau p = t → p = p0) (ht0 : tau p0 = t) (hf : M' 18 p0 ≠ -1) (hk : ∀ k, k ≠ p0 → M' 18 k = M 18 k) (hw : want M0 p0) : WT M0 (t + 1) M' := by
  intro p hp ht
  by_cases e : tau p = t
  · rw [hb p hp e]
    exact ⟨fun _ => hw, fun _ => hf⟩
  · have : p ≠ p0 := fun q => e (by rw [q]; exact ht0)
    rw [hk p this]
    exact h p hp (by omega)
theorem GB_b {M0 N N' : Mem} {t p0 : Nat} (h : GB M0 t N) (hb : ∀ p, p < 53 → tau p = t → p = p0) (ht0 : tau p0 = t) (hp0 : N' 16 p0 = if M0 15 p0 = -1 then 0 else 1) (hk : ∀ k, k ≠ p0 → N' 16 k = N 16 k) : GB M0 (t + 1) N' := by
  intro p hp
  by_cases e : p = p0
  · subst e
    exact ⟨fun _ => hp0, fun q => by omega⟩
  · have e2 : tau p ≠ t := fun q => e (hb p (by omega) q)
    rw [hk p e]
    exact ⟨fun q => (h p hp).1 (by omega), fun q => (h p hp).2 (by omega)⟩
/-- the context of a sync -/
def SY (M0 N0 : Mem) : Prop := zR 0 M0 N0 ∧ (∀ k, k < 48 → -1 ≤ (M0 15 k).toInt) ∧ (∀ k, k < 4 → M0 5 k = 1 ∨ M0 5 k = 2)
theorem r_lfile {M0 N0 : Mem} {x cp a : Int32} {jj : Bool} (hS : SY M0 N0) (hx : 0 ≤ x.toInt ∧ x.toInt < 4) (hcp : cp = M0 5 x.toNatClampNeg) : ∀ (k : Nat) (v : Int32) (i : Nat) (M N : Mem), v.toInt = i → i ≤ 12 → 12 - i + 1 ≤ k →
    CH M0 (13 * x.toNatClampNeg + i) M N → FN N0 N → WT M0 (13 * x.toNatClampNeg + i) M → GB M0 (13 * x.toNatClampNeg + i) N →
    (∃ M', l_X4_chooseForFile_20 x cp k v M = .inl (false, M') ∧ (l_X5_tries_133 a jj x k true (12 * x + v) N).1 = false ∧ FM M0 M' ∧ FN N0 (l_X5_tries_133 a jj x k true (12 * x + v) N).2.2) ∨
    (∃ M' w, l_X4_chooseForFile_20 x cp k v M = .inr (w, M') ∧ (l_X5_tries_133 a jj x k true (12 * x + v) N).1 = true ∧ CH M0 (13 * x.toNatClampNeg + 12) M' (l_X5_tries_133 a jj x k true (12 * x + v) N).2.2 ∧ FN N0 (l_X5_tries_133 a jj x k true (12 * x + v) N).2.2 ∧
      WT M0 (13 * x.toNatClampNeg + 12) M' ∧ GB M0 (13 * x.toNatClampNeg + 12) (l_X5_tries_133 a jj x k true (12 * x + v) N).2.2 ∧ ∀ p, 48 ≤ p → (l_X5_tries_133 a jj x k true (12 * x + v) N).2.2 16 p = N 16 p) := by
  intro k
  induction k with
  | zero => intro v i _ _ _ _ h; omega
  | succ k ih =>
    intro v i M N hv hi hk hC hF hW hG
    have e12 := z12 hx (b := 12) (by decide)
    simp only [Int32.reduceToInt] at e12
    have ev := z12 hx (b := v) (by omega)
    have hxN := y_N hx.1
    have hx4 : x.toNatClampNeg < 4 := by omega
    rw [show l_X4_chooseForFile_20 x cp (k + 1) v M = b_X4_chooseForFile_20 x cp (l_X4_chooseForFile_20 x cp k) v M from rfl, show l_X5_tries_133 a jj x (k + 1) true (12 * x + v) N = b_X5_tries_133 a jj x (l_X5_tries_133 a jj x k) true (12 * x + v) N from rfl]
    unfold b_X4_chooseForFile_20 b_X5_tries_133
    by_cases hg : 12 ≤ v
    · rw [if_pos hg, if_pos (show 12 * x + 12 ≤ 12 * x + v by rw [Int32.le_iff_toInt_le] at hg ⊢; simp only [Int32.reduceToInt] at hg; omega)]
      rw [Int32.le_iff_toInt_le] at hg
      simp only [Int32.reduceToInt] at hg
      have : i = 12 := by omega
      subst this
      exact Or.inr ⟨M, v, rfl, rfl, hC, hF, hW, hG, fun _ _ => rfl⟩
    · have hn := z_p1 hg
      rw [if_neg hg, if_neg (show ¬ 12 * x + 12 ≤ 12 * x + v by rw [Int32.le_iff_toInt_le] at hg ⊢; simp only [Int32.reduceToInt] at hg; omega)]
      simp only [if_true]
      rw [Int32.le_iff_toInt_le] at hg
      simp only [Int32.reduceToInt] at hg
      have hi12 : i < 12 := by omega
      have hvN : v.toNatClampNeg = i := by have := y_N (v := v) (by omega); omega
      have hb := y_bp (a := x) (b := v) ⟨hx, by omega⟩
      have hb3 := y_bp3 (a := x) (b := v) ⟨hx, by omega⟩
      have ep : (12 * x + v).toNatClampNeg = 12 * x.toNatClampNeg + i := by rw [y_12 hx (by omega), hvN]
      have hp0 : 12 * x.toNatClampNeg + i < 48 := by omega
      have hz := zR_FN hS.1 hF
      have eM15 := hC.2.1 15 (by decide) (by decide) (by decide) (by decide)
      have hbi : ∀ p, p < 53 → tau p = 13 * x.toNatClampNeg + i → p = 12 * x.toNatClampNeg + i := fun p hp h => tau_bi hx4 hi12 hp h
      have ht0 := tau_b hx4 hi12
      have fr := hC.2.2.2.2.2.1 _ (show 12 * x.toNatClampNeg + i < 53 by omega) (by omega)
      have n3 : ∀ y : Int32, (mup N 16 (12 * x.toNatClampNeg + i) y) 3 (12 * x.toNatClampNeg + i) = M0 15 (12 * x.toNatClampNeg + i) := by
        intro y; rw [hz.1 _ hp0]; simp [mup, mset]
      have n1 : ∀ y : Int32, (mup N 16 (12 * x.toNatClampNeg + i) y) 1 x.toNatClampNeg = cp := by
        intro y; rw [hcp, hz.2.2.2.2.2.2.1 _ hx4]; simp [mup, mset]
      have n16 : ∀ y : Int32, (mup N 16 (12 * x.toNatClampNeg + i) y) 16 = upd (N 16) (12 * x.toNatClampNeg + i) y := by intro y; simp [mup, mset]
      have hCN : ∀ y : Int32, CH M0 (13 * x.toNatClampNeg + i) M (mup N 16 (12 * x.toNatClampNeg + i) y) := fun y => CH_N hC (by simp [mup, mset]) (by simp [mup, mset]) (by simp [mup, mset]) (by simp [mup, mset])
      have hge := hS.2.1 _ hp0
      rw [y_pt, u_holds hb, u_changeOf hb, eM15, ep]
      simp only [zlet]
      rw [← hz.1 _ hp0]
      by_cases e : M0 15 (12 * x.toNatClampNeg + i) = -1
      · simp only [e, decide_true, Bool.not_true, Bool.false_eq_true, if_false, if_true]
        rw [n3, if_pos (by rw [e]; decide), Int32.add_assoc (12 * x) v 1]
        have hG1 : GB M0 (13 * x.toNatClampNeg + (i + 1)) (mup N 16 (12 * x.toNatClampNeg + i) (bI false)) := GB_b hG hbi ht0 (by rw [n16, pk_us, if_pos e]; rfl) (fun k hk => by rw [n16, pk_un hk])
        have hw : ¬ want M0 (12 * x.toNatClampNeg + i) := by unfold want; rw [if_pos hp0]; exact fun q => q.1 e
        rcases ih (v + 1) (i + 1) M _ (by omega) (by omega) (by omega) (CH_mono (hCN _) (by omega)) (FN_16 hF) (WT_no hW hbi fr.1 hw) hG1 with ⟨M', r⟩ | ⟨M', w, r1, r2, r3, r4, r5, r6, r7⟩
        · exact Or.inl ⟨M', r⟩
        · exact Or.inr ⟨M', w, r1, r2, r3, r4, r5, r6, fun p hp => by rw [r7 p hp, n16, pk_un (by omega)]⟩
      · by_cases e0 : M0 15 (12 * x.toNatClampNeg + i) = 0
        · have e' : ¬ (0 : Int32) = -1 := by decide
          simp only [e0, e', decide_false, Bool.not_false, Bool.false_eq_true, if_false, if_true]
          rw [n3, if_pos (by rw [e0]; decide), Int32.add_assoc (12 * x) v 1]
          have hG1 : GB M0 (13 * x.toNatClampNeg + (i + 1)) (mup N 16 (12 * x.toNatClampNeg + i) (bI true)) := GB_b hG hbi ht0 (by rw [n16, pk_us, if_neg e]; rfl) (fun k hk => by rw [n16, pk_un hk])
          have hw : ¬ want M0 (12 * x.toNatClampNeg + i) := by unfold want; rw [if_pos hp0]; exact fun q => q.2 e0
          rcases ih (v + 1) (i + 1) M _ (by omega) (by omega) (by omega) (CH_mono (hCN _) (by omega)) (FN_16 hF) (WT_no hW hbi fr.1 hw) hG1 with ⟨M', r⟩ | ⟨M', w, r1, r2, r3, r4, r5, r6, r7⟩
          · exact Or.inl ⟨M', r⟩
          · exact Or.inr ⟨M', w, r1, r2, r3, r4, r5, r6, fun p hp => by rw [r7 p hp, n16, pk_un (by omega)]⟩
        · simp only [e, e0, decide_false, Bool.not_false, if_false, if_true]
          have hlt : ¬ M0 15 (12 * x.toNatClampNeg + i) < 1 := by
            rw [Int32.lt_iff_toInt_lt]; simp only [Int32.reduceToInt]
            have q1 : (M0 15 (12 * x.toNatClampNeg + i)).toInt ≠ -1 := fun q => e (Int32.toInt_inj.mp (by simpa using q))
            have q2 : (M0 15 (12 * x.toNatClampNeg + i)).toInt ≠ 0 := fun q => e0 (Int32.toInt_inj.mp (by simpa using q))
            omega
          rw [n3, if_neg hlt, n1]
          have hw : want M0 (12 * x.toNatClampNeg + i) := by unfold want; rw [if_pos hp0]; exact ⟨e, e0⟩
          have hcp2 := hS.2.2 _ hx4
          rw [← hcp] at hcp2
          -- with one place or with two
          have main : ∀ two : Bool, (2 ≤ cp ↔ two = true) →
              (∃ M', (if (f_X1_choose (12 * x + v) cp M).1 = true then l_X4_chooseForFile_20 x cp k (v + 1) (f_X1_choose (12 * x + v) cp M).2 else .inl (false, (f_X1_choose (12 * x + v) cp M).2)) = .inl (false, M') ∧ (if (f_X5_tryOut (12 * x + v) two (mup N 16 (12 * x.toNatClampNeg + i) (bI true))).1 = true then l_X5_tries_133 a jj x k true (12 * x + v + 1) (f_X5_tryOut (12 * x + v) two (mup N 16 (12 * x.toNatClampNeg + i) (bI true))).2 else l_X5_tries_133 a jj x k false (12 * x + v + 1) (f_X5_tryOut (12 * x + v) two (mup N 16 (12 * x.toNatClampNeg + i) (bI true))).2).1 = false ∧ FM M0 M' ∧ FN N0 (if (f_X5_tryOut (12 * x + v) two (mup N 16 (12 * x.toNatClampNeg + i) (bI true))).1 = true then l_X5_tries_133 a jj x k true (12 * x + v + 1) (f_X5_tryOut (12 * x + v) two (mup N 16 (12 * x.toNatClampNeg + i) (bI true))).2 else l_X5_tries_133 a jj x k false (12 * x + v + 1) (f_X5_tryOut (12 * x + v) two (mup N 16 (12 * x.toNatClampNeg + i) (bI true))).2).2.2) ∨
              (∃ M' w, (if (f_X1_choose (12 * x + v) cp M).1 = true then l_X4_chooseForFile_20 x cp k (v + 1) (f_X1_choose (12 * x + v) cp M).2 else .inl (false, (f_X1_choose (12 * x + v) cp M).2)) = .inr (w, M') ∧ (if (f_X5_tryOut (12 * x + v) two (mup N 16 (12 * x.toNatClampNeg + i) (bI true))).1 = true then l_X5_tries_133 a jj x k true (12 * x + v + 1) (f_X5_tryOut (12 * x + v) two (mup N 16 (12 * x.toNatClampNeg + i) (bI true))).2 else l_X5_tries_133 a jj x k false (12 * x + v + 1) (f_X5_tryOut (12 * x + v) two (mup N 16 (12 * x.toNatClampNeg + i) (bI true))).2).1 = true ∧
                CH M0 (13 * x.toNatClampNeg + 12) M' (if (f_X5_tryOut (12 * x + v) two (mup N 16 (12 * x.toNatClampNeg + i) (bI true))).1 = true then l_X5_tries_133 a jj x k true (12 * x + v + 1) (f_X5_tryOut (12 * x + v) two (mup N 16 (12 * x.toNatClampNeg + i) (bI true))).2 else l_X5_tries_133 a jj x k false (12 * x + v + 1) (f_X5_tryOut (12 * x + v) two (mup N 16 (12 * x.toNatClampNeg + i) (bI true))).2).2.2 ∧
                FN N0 (if (f_X5_tryOut (12 * x + v) two (mup N 16 (12 * x.toNatClampNeg + i) (bI true))).1 = true then l_X5_tries_133 a jj x k true (12 * x + v + 1) (f_X5_tryOut (12 * x + v) two (mup N 16 (12 * x.toNatClampNeg + i) (bI true))).2 else l_X5_tries_133 a jj x k false (12 * x + v + 1) (f_X5_tryOut (12 * x + v) two (mup N 16 (12 * x.toNatClampNeg + i) (bI true))).2).2.2 ∧ WT M0 (13 * x.toNatClampNeg + 12) M' ∧
                GB M0 (13 * x.toNatClampNeg + 12) (if (f_X5_tryOut (12 * x + v) two (mup N 16 (12 * x.toNatClampNeg + i) (bI true))).1 = true then l_X5_tries_133 a jj x k true (12 * x + v + 1) (f_X5_tryOut (12 * x + v) two (mup N 16 (12 * x.toNatClampNeg + i) (bI true))).2 else l_X5_tries_133 a jj x k false (12 * x + v + 1) (f_X5_tryOut (12 * x + v) two (mup N 16 (12 * x.toNatClampNeg + i) (bI true))).2).2.2 ∧
                ∀ p, 48 ≤ p → (if (f_X5_tryOut (12 * x + v) two (mup N 16 (12 * x.toNatClampNeg + i) (bI true))).1 = true then l_X5_tries_133 a jj x k true (12 * x + v + 1) (f_X5_tryOut (12 * x + v) two (mup N 16 (12 * x.toNatClampNeg + i) (bI true))).2 else l_X5_tries_133 a jj x k false (12 * x + v + 1) (f_X5_tryOut (12 * x + v) two (mup N 16 (12 * x.toNatClampNeg + i) (bI true))).2).2.2 16 p = N 16 p) := by
            intro two h2
            obtain ⟨c1, c2, c3, c4, c5, c6⟩ := r_choose (hCN (bI true)) (FN_16 (k := 12 * x.toNatClampNeg + i) (x := bI true) hF) hb3 (by rw [ep]; exact ht0) h2
            rw [ep, n16] at c4
            rw [ep] at c5 c6
            revert c1 c2 c3 c4 c5 c6
            generalize (f_X1_choose (12 * x + v) cp M).1 = a1
            generalize (f_X1_choose (12 * x + v) cp M).2 = a2
            generalize (f_X5_tryOut (12 * x + v) two (mup N 16 (12 * x.toNatClampNeg + i) (bI true))).1 = b1
            generalize (f_X5_tryOut (12 * x + v) two (mup N 16 (12 * x.toNatClampNeg + i) (bI true))).2 = b2
            intro c1 c2 c3 c4 c5 c6
            subst c1
            cases a1 with
            | false =>
              left
              simp only [Bool.false_eq_true, if_false]
              obtain ⟨w1, w2⟩ := v_133F a jj x k (12 * x + v + 1) b2
              exact ⟨a2, rfl, w1, c2, by rw [w2]; exact c3⟩
            | true =>
              simp only [if_true]
              obtain ⟨c7, c8⟩ := c6 rfl
              have hG1 : GB M0 (13 * x.toNatClampNeg + (i + 1)) b2 := GB_b hG hbi ht0 (by rw [c4, pk_us, if_neg e]) (fun k hk => by rw [c4, pk_un hk, pk_un hk])
              rw [Int32.add_assoc (12 * x) v 1]
              rcases ih (v + 1) (i + 1) a2 b2 (by omega) (by omega) (by omega) c7 c3 (WT_yes hW hbi ht0 c8 c5 hw) hG1 with ⟨M', r⟩ | ⟨M', w, r1, r2, r3, r4, r5, r6, r7⟩
              · exact Or.inl ⟨M', r⟩
              · exact Or.inr ⟨M', w, r1, r2, r3, r4, r5, r6, fun p hp => by rw [r7 p hp, c4, pk_un (by omega), pk_un (by omega)]⟩
          rcases hcp2 with q | q
          · rw [if_pos (show ¬ cp = 2 by rw [q]; decide)]
            exact main false (by rw [q]; decide)
          · rw [if_neg (show ¬ ¬ cp = 2 from fun w => w q)]
            exact main true (by rw [q]; decide)
end
