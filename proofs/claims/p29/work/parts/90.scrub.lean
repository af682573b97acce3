/-! ===== PURE: scrubbing, twice ===== -/
section
theorem nI_ge12 {b : Nat} (hb : b < 12) : ¬ (12 : Int32) ≤ nI b := nI_ge (b := 12) hb (by decide)
theorem nI_ge4 {b : Nat} (hb : b < 4) : ¬ (4 : Int32) ≤ nI b := nI_ge (b := 4) hb (by decide)
/-- what scrubbing a file cleans -/
def CLF (f : Nat) (M : Mem) : Prop := fe M (48 + f) = true → cl (48 + f) M ∧ ∀ b, b < 12 → fe M (12 * f + b) = true → cl (12 * f + b) M
theorem CLF_SC {f : Nat} {v : Int32} {M M' : Mem} (hf : f < 4) (h : SC v M M') (k : CLF f M) : CLF f M' := by
  intro e
  rw [h.2.1 _ (by omega)] at e
  obtain ⟨k1, k2⟩ := k e
  exact ⟨cl_SC h k1, fun b hb e2 => cl_SC h (k2 b hb (by rw [← h.2.1 _ (by omega)]; exact e2))⟩
theorem sf_loop {n : Int} {f : Nat} {M0 : Mem} (hf : f < 4) (h0 : zI n M0) : ∀ (j k b : Nat) (v : Int32) (N : Mem), b + j = 12 → j + 1 ≤ k → SC v M0 N → (∀ b', b' < b → fe M0 (12 * f + b') = true → cl (12 * f + b') N) →
    SC (l_X4_scrubFile_24 (nI f) k v (nI b) N).1 M0 (l_X4_scrubFile_24 (nI f) k v (nI b) N).2.2 ∧ ∀ b', b' < 12 → fe M0 (12 * f + b') = true → cl (12 * f + b') (l_X4_scrubFile_24 (nI f) k v (nI b) N).2.2 := by
  intro j
  induction j with
  | zero =>
    intro k b v N hb hk hS hc
    have e : b = 12 := by omega
    subst e
    cases k with
    | zero => omega
    | succ k =>
      have e1 : l_X4_scrubFile_24 (nI f) (k + 1) v (nI 12) N = (v, nI 12, N) := by
        show b_X4_scrubFile_24 (nI f) (l_X4_scrubFile_24 (nI f) k) v (nI 12) N = _
        unfold b_X4_scrubFile_24
        rw [if_pos (by decide)]
      rw [e1]
      exact ⟨hS, hc⟩
  | succ j ih =>
    intro k b v N hb hk hS hc
    cases k with
    | zero => omega
    | succ k =>
      have hN : zI n N := zI_sK h0 hS.1
      have hp : 12 * f + b < 53 := by omega
      have ef := hS.2.1 (12 * f + b) hp
      show SC (b_X4_scrubFile_24 (nI f) (l_X4_scrubFile_24 (nI f) k) v (nI b) N).1 M0 (b_X4_scrubFile_24 (nI f) (l_X4_scrubFile_24 (nI f) k) v (nI b) N).2.2 ∧ _
      have es : l_X4_scrubFile_24 (nI f) (k + 1) v (nI b) N = b_X4_scrubFile_24 (nI f) (l_X4_scrubFile_24 (nI f) k) v (nI b) N := rfl
      rw [es]
      unfold b_X4_scrubFile_24
      rw [if_neg (nI_ge12 (by omega)), y_bpn, nI_1]
      simp only [zlet]
      by_cases e : fe N (12 * f + b) = true
      · have e' : f_X4_canFetch (nI (12 * f + b)) N = true := e
        rw [if_pos e']
        obtain ⟨a1, a2, a3⟩ := hec_hz hp hN
        have aS := SC.of hp hN a1 a2 (Or.inl e)
        refine ih k (b + 1) _ _ (by omega) (by omega) (hS.trans aS) (fun b' hb' e2 => ?_)
        by_cases eb : b' = b
        · rw [eb]; exact a3
        · exact cl_SC aS (hc b' (by omega) e2)
      · have e' : ¬ f_X4_canFetch (nI (12 * f + b)) N = true := e
        rw [if_neg e']
        refine ih k (b + 1) _ _ (by omega) (by omega) hS (fun b' hb' e2 => ?_)
        by_cases eb : b' = b
        · rw [eb] at e2; rw [ef] at e; exact absurd e2 e
        · exact hc b' (by omega) e2
theorem sf_SC {n : Int} {f : Nat} {M : Mem} (hf : f < 4) (h : zI n M) : SC (f_X4_scrubFile (nI f) M).1 M (f_X4_scrubFile (nI f) M).2 ∧ CLF f (f_X4_scrubFile (nI f) M).2 := by
  have hp : 48 + f < 53 := by omega
  unfold f_X4_scrubFile
  rw [y_fpn]
  simp only [zlet]
  by_cases e : fe M (48 + f) = true
  · have e' : f_X4_canFetch (nI (48 + f)) M = true := e
    rw [if_pos e']
    obtain ⟨a1, a2, a3⟩ := hec_hz hp h
    have aS := SC.of hp h a1 a2 (Or.inl e)
    have hN : zI n (f_X4_healEveryCell (nI (48 + f)) M).2 := zI_sK h aS.1
    obtain ⟨b1, b2⟩ := sf_loop hf hN 12 13 0 0 _ (by omega) (by omega) (SC.refl _) (fun b' hb' => by omega)
    have hz0 : ∀ (k : Nat) (v w u : Int32) (N : Mem), (l_X4_scrubFile_24 (nI f) k (u + v) w N).1 = u + (l_X4_scrubFile_24 (nI f) k v w N).1 ∧ (l_X4_scrubFile_24 (nI f) k (u + v) w N).2.2 = (l_X4_scrubFile_24 (nI f) k v w N).2.2 := by
      intro k
      induction k with
      | zero => intro v w u N; exact ⟨rfl, rfl⟩
      | succ k ih =>
        intro v w u N
        show (b_X4_scrubFile_24 (nI f) (l_X4_scrubFile_24 (nI f) k) (u + v) w N).1 = u + (b_X4_scrubFile_24 (nI f) (l_X4_scrubFile_24 (nI f) k) v w N).1 ∧ (b_X4_scrubFile_24 (nI f) (l_X4_scrubFile_24 (nI f) k) (u + v) w N).2.2 = (b_X4_scrubFile_24 (nI f) (l_X4_scrubFile_24 (nI f) k) v w N).2.2
        unfold b_X4_scrubFile_24
        simp only [zlet]
        by_cases g : (12 : Int32) ≤ w
        · rw [if_pos g, if_pos g]; exact ⟨rfl, rfl⟩
        · rw [if_neg g, if_neg g]
          by_cases g2 : f_X4_canFetch (f_X4_blockPointer (nI f) w) N = true
          · rw [if_pos g2, if_pos g2, Int32.add_assoc]; exact ih _ _ _ _
          · rw [if_neg g2, if_neg g2]; exact ih _ _ _ _
    have hz1 := hz0 13 0 0 (f_X4_healEveryCell (nI (48 + f)) M).1 (f_X4_healEveryCell (nI (48 + f)) M).2
    rw [Int32.add_zero] at hz1
    have z0 : (nI 0) = (0 : Int32) := rfl
    rw [z0] at b1 b2
    rw [hz1.1, hz1.2]
    refine ⟨aS.trans b1, fun _ => ⟨cl_SC b1 a3, fun b hb e2 => b2 b hb ?_⟩⟩
    rw [← b1.2.1 _ (by omega)]; exact e2
  · have e' : ¬ f_X4_canFetch (nI (48 + f)) M = true := e
    rw [if_neg e']
    exact ⟨SC.refl M, fun z => absurd z e⟩
theorem sc_loop {n : Int} {M0 : Mem} (h0 : zI n M0) : ∀ (j k f : Nat) (v : Int32) (N : Mem), f + j = 4 → j + 1 ≤ k → SC v M0 N → (∀ f', f' < f → CLF f' N) →
    SC (l_X4_scrub_22 k v (nI f) N).1 M0 (l_X4_scrub_22 k v (nI f) N).2.2 ∧ ∀ f', f' < 4 → CLF f' (l_X4_scrub_22 k v (nI f) N).2.2 := by
  intro j
  induction j with
  | zero =>
    intro k f v N hb hk hS hc
    have e : f = 4 := by omega
    subst e
    cases k with
    | zero => omega
    | succ k =>
      have e1 : l_X4_scrub_22 (k + 1) v (nI 4) N = (v, nI 4, N) := by
        show b_X4_scrub_22 (l_X4_scrub_22 k) v (nI 4) N = _
        unfold b_X4_scrub_22
        rw [if_pos (by decide)]
      rw [e1]
      exact ⟨hS, hc⟩
  | succ j ih =>
    intro k f v N hb hk hS hc
    cases k with
    | zero => omega
    | succ k =>
      have hN : zI n N := zI_sK h0 hS.1
      have es : l_X4_scrub_22 (k + 1) v (nI f) N = b_X4_scrub_22 (l_X4_scrub_22 k) v (nI f) N := rfl
      rw [es]
      unfold b_X4_scrub_22
      rw [if_neg (nI_ge4 (by omega)), nI_1]
      simp only [zlet]
      obtain ⟨a1, a2⟩ := sf_SC (f := f) (by omega) hN
      refine ih k (f + 1) _ _ (by omega) (by omega) (hS.trans a1) (fun f' hf' => ?_)
      by_cases e : f' = f
      · rw [e]; exact a2
      · exact CLF_SC (by omega) a1 (hc f' (by omega))
theorem scrub_SC {n : Int} {M : Mem} (h : zI n M) : ∃ (v : Int32) (M1 : Mem), f_X4_scrub M = (v, mup M1 0 5 (M1 0 5 + v)) ∧ SC v M M1 ∧ (fe M 52 = true → cl 52 M1 ∧ ∀ f, f < 4 → CLF f M1) := by
  unfold f_X4_scrub
  simp only [zlet]
  by_cases e : fe M 52 = true
  · have e' : f_X4_canFetch 52 M = true := e
    rw [if_pos e']
    obtain ⟨a1, a2, a3⟩ := hec_hz (p := 52) (by decide) h
    have aS := SC.of (p := 52) (by decide) h a1 a2 (Or.inl e)
    have z52 : nI 52 = (52 : Int32) := rfl
    rw [z52] at aS a3
    have b := sc_loop h 4 5 0 (0 + (f_X4_healEveryCell 52 M).1) (f_X4_healEveryCell 52 M).2 (by omega) (by omega) (by rw [Int32.zero_add]; exact aS) (fun f' hf' => by omega)
    have z0 : (nI 0) = (0 : Int32) := rfl
    rw [z0] at b
    refine ⟨_, _, rfl, b.1, fun _ => ⟨?_, b.2⟩⟩
    have hN : zI n (f_X4_healEveryCell 52 M).2 := zI_sK h aS.1
    have b2 := sc_loop hN 4 5 0 0 (f_X4_healEveryCell 52 M).2 (by omega) (by omega) (SC.refl _) (fun f' hf' => by omega)
    rw [z0] at b2
    have hz0 : ∀ (k : Nat) (v w u : Int32) (N : Mem), (l_X4_scrub_22 k (u + v) w N).2.2 = (l_X4_scrub_22 k v w N).2.2 := by
      intro k
      induction k with
      | zero => intro v w u N; rfl
      | succ k ih =>
        intro v w u N
        show (b_X4_scrub_22 (l_X4_scrub_22 k) (u + v) w N).2.2 = (b_X4_scrub_22 (l_X4_scrub_22 k) v w N).2.2
        unfold b_X4_scrub_22
        simp only [zlet]
        by_cases g : (4 : Int32) ≤ w
        · rw [if_pos g, if_pos g]
        · rw [if_neg g, if_neg g, Int32.add_assoc]; exact ih _ _ _ _
    have e3 := hz0 5 0 0 (0 + (f_X4_healEveryCell 52 M).1) (f_X4_healEveryCell 52 M).2
    rw [Int32.add_zero] at e3
    rw [e3]
    exact cl_SC b2.1 a3
  · have e' : ¬ f_X4_canFetch 52 M = true := e
    rw [if_neg e']
    exact ⟨0, M, rfl, SC.refl M, fun z => absurd z e⟩
/-- where all is clean nothing is healed -/
theorem sf_cl {n : Int} {f : Nat} {M : Mem} (hf : f < 4) (h : zI n M) (hc : CLF f M) : f_X4_scrubFile (nI f) M = (0, M) := by
  have hp : 48 + f < 53 := by omega
  unfold f_X4_scrubFile
  rw [y_fpn]
  simp only [zlet]
  by_cases e : fe M (48 + f) = true
  · have e' : f_X4_canFetch (nI (48 + f)) M = true := e
    obtain ⟨c1, c2⟩ := hc e
    rw [if_pos e', hec_cl hp h c1]
    have lp : ∀ (j k b : Nat), b + j = 12 → j + 1 ≤ k → (l_X4_scrubFile_24 (nI f) k 0 (nI b) M).1 = 0 ∧ (l_X4_scrubFile_24 (nI f) k 0 (nI b) M).2.2 = M := by
      intro j
      induction j with
      | zero =>
        intro k b hb hk
        have e : b = 12 := by omega
        subst e
        cases k with
        | zero => omega
        | succ k =>
          have e1 : l_X4_scrubFile_24 (nI f) (k + 1) 0 (nI 12) M = (0, nI 12, M) := by
            show b_X4_scrubFile_24 (nI f) (l_X4_scrubFile_24 (nI f) k) 0 (nI 12) M = _
            unfold b_X4_scrubFile_24
            rw [if_pos (by decide)]
          rw [e1]
          exact ⟨rfl, rfl⟩
      | succ j ih =>
        intro k b hb hk
        cases k with
        | zero => omega
        | succ k =>
          have es : l_X4_scrubFile_24 (nI f) (k + 1) 0 (nI b) M = b_X4_scrubFile_24 (nI f) (l_X4_scrubFile_24 (nI f) k) 0 (nI b) M := rfl
          rw [es]
          unfold b_X4_scrubFile_24
          rw [if_neg (nI_ge12 (by omega)), y_bpn, nI_1]
          simp only [zlet]
          by_cases e2 : fe M (12 * f + b) = true
          · have e2' : f_X4_canFetch (nI (12 * f + b)) M = true := e2
            rw [if_pos e2', hec_cl (show 12 * f + b < 53 by omega) h (c2 b (by omega) e2)]
            exact ih k (b + 1) (by omega) (by omega)
          · have e2' : ¬ f_X4_canFetch (nI (12 * f + b)) M = true := e2
            rw [if_neg e2']
            exact ih k (b + 1) (by omega) (by omega)
    have l0 := lp 12 13 0 (by omega) (by omega)
    have z0 : (nI 0) = (0 : Int32) := rfl
    rw [z0] at l0
    exact Prod.ext l0.1 l0.2
  · have e' : ¬ f_X4_canFetch (nI (48 + f)) M = true := e
    rw [if_neg e']
theorem scrub_cl {n : Int} {M : Mem} (h : zI n M) (hc : fe M 52 = true → cl 52 M ∧ ∀ f, f < 4 → CLF f M) : f_X4_scrub M = (0, mup M 0 5 (M 0 5 + 0)) := by
  unfold f_X4_scrub
  simp only [zlet]
  by_cases e : fe M 52 = true
  · have e' : f_X4_canFetch 52 M = true := e
    obtain ⟨c1, c2⟩ := hc e
    have e5 := hec_cl (p := 52) (by decide) h c1
    have z52 : nI 52 = (52 : Int32) := rfl
    rw [z52] at e5
    rw [if_pos e', e5]
    have lp : ∀ (j k f : Nat), f + j = 4 → j + 1 ≤ k → (l_X4_scrub_22 k 0 (nI f) M).1 = 0 ∧ (l_X4_scrub_22 k 0 (nI f) M).2.2 = M := by
      intro j
      induction j with
      | zero =>
        intro k f hb hk
        have e : f = 4 := by omega
        subst e
        cases k with
        | zero => omega
        | succ k =>
          have e1 : l_X4_scrub_22 (k + 1) 0 (nI 4) M = (0, nI 4, M) := by
            show b_X4_scrub_22 (l_X4_scrub_22 k) 0 (nI 4) M = _
            unfold b_X4_scrub_22
            rw [if_pos (by decide)]
          rw [e1]
          exact ⟨rfl, rfl⟩
      | succ j ih =>
        intro k f hb hk
        cases k with
        | zero => omega
        | succ k =>
          have es : l_X4_scrub_22 (k + 1) 0 (nI f) M = b_X4_scrub_22 (l_X4_scrub_22 k) 0 (nI f) M := rfl
          rw [es]
          unfold b_X4_scrub_22
          rw [if_neg (nI_ge4 (by omega)), nI_1, sf_cl (by omega) h (c2 f (by omega))]
          exact ih k (f + 1) (by omega) (by omega)
    have l0 := lp 4 5 0 (by omega) (by omega)
    have z0 : (nI 0) = (0 : Int32) := rfl
    rw [z0] at l0
    show ((l_X4_scrub_22 5 (0 + 0) 0 M).1, mup (l_X4_scrub_22 5 (0 + 0) 0 M).2.2 0 5 ((l_X4_scrub_22 5 (0 + 0) 0 M).2.2 0 5 + (l_X4_scrub_22 5 (0 + 0) 0 M).1)) = _
    rw [show (0 : Int32) + 0 = 0 from rfl, l0.1, l0.2]
  · have e' : ¬ f_X4_canFetch 52 M = true := e
    rw [if_neg e']
end
