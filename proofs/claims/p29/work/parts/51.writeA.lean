section
/-! ===== PURE, sync: the class writes all ===== -/
theorem no_nw {M : Mem} {x : Int32} {p : Nat} (hx : 0 ≤ x.toInt ∧ x.toInt < 4) (hc : ¬ f_X2_changes x M = true) (hp : p < 53) (h1 : 13 * x.toNatClampNeg ≤ tau p) (h2 : tau p < 13 * (x.toNatClampNeg + 1)) : nw M p = false := by
  have hxN := y_N hx.1
  have hx4 : x.toNatClampNeg < 4 := by omega
  have hc' : ¬ ch M x.toNatClampNeg := fun q => hc ((u_ch hx).mpr q)
  obtain ⟨_, n2⟩ := no_b hx4 hc' hp h1 h2
  by_cases h : p < 48
  · unfold nw; rw [if_pos h, n2 h]; rfl
  · have e : p = 48 + x.toNatClampNeg := by
      unfold tau at h1 h2
      rw [if_neg h] at h1 h2
      by_cases h' : p < 52
      · rw [if_pos h'] at h1 h2; omega
      · rw [if_neg h'] at h1 h2; omega
    rw [e, nw_f hx]
    simpa using hc
theorem WS_skip {M1 M : Mem} {x v : Int32} (hx : 0 ≤ x.toInt ∧ x.toInt < 4) (hc : ¬ f_X2_changes x M1 = true) (h : WS M1 (13 * x.toNatClampNeg) v M) : WS M1 (13 * (x.toNatClampNeg + 1)) v M := by
  have hd : ∀ p, p < 53 → dt M1 (13 * (x.toNatClampNeg + 1)) p = dt M1 (13 * x.toNatClampNeg) p := by
    intro p hp
    unfold dt
    by_cases q1 : tau p < 13 * x.toNatClampNeg
    · rw [decide_eq_true q1, decide_eq_true (by omega)]
    · by_cases q2 : tau p < 13 * (x.toNatClampNeg + 1)
      · rw [no_nw hx hc hp (by omega) q2]; rfl
      · rw [decide_eq_false q1, decide_eq_false q2]
  refine ⟨SW_congr h.1 (fun p hp => by rw [hd p hp]) (fun p hp => by rw [hd p hp]), ?_⟩
  have := h.2
  unfold aS at *
  rw [this]
  exact sm_congr 53 (fun p hp => by rw [hd p hp])
theorem r_lwc {M1 : Mem} (hV : CV M1) : ∀ (k : Nat) (v1 v2 : Int32) (F : Nat) (M : Mem), v2.toInt = F → F ≤ 4 → 4 - F + 1 ≤ k → WS M1 (13 * F) v1 M →
    WS M1 52 (l_X4_writeChanges_4 k v1 v2 M).1 (l_X4_writeChanges_4 k v1 v2 M).2.2 := by
  intro k
  induction k with
  | zero => intro v1 v2 F _ _ _ h; omega
  | succ k ih =>
    intro v1 v2 F M hv hF hk h
    show WS M1 52 (b_X4_writeChanges_4 (l_X4_writeChanges_4 k) v1 v2 M).1 (b_X4_writeChanges_4 (l_X4_writeChanges_4 k) v1 v2 M).2.2
    unfold b_X4_writeChanges_4
    by_cases hg : 4 ≤ v2
    · rw [if_pos hg]
      rw [Int32.le_iff_toInt_le] at hg
      simp only [Int32.reduceToInt] at hg
      have : F = 4 := by omega
      rw [this] at h
      exact h
    · rw [if_neg hg]
      have hn := z_p1 hg
      have hx := z_4 hg (by omega)
      have hxN : v2.toNatClampNeg = F := by have := y_N hx.1; omega
      have e15 : M 15 = M1 15 := h.1.1 15 (by decide) (by decide) (by decide) (by decide) (by decide) (by decide)
      have e1 : (v2 + 1).toInt = ((F + 1 : Nat) : Int) := by omega
      have e2 : F + 1 ≤ 4 := by omega
      have e3 : 4 - (F + 1) + 1 ≤ k := y_e3 hk (by omega)
      rw [chg_15 hx e15]
      by_cases hc : f_X2_changes v2 M1 = true
      · rw [if_pos hc]
        simp only [zlet]
        have r := r_wf hV hx hc (by rw [hxN]; exact h)
        rw [hxN] at r
        exact ih _ _ (F + 1) _ e1 e2 e3 r
      · rw [if_neg hc]
        have r := WS_skip hx hc (by rw [hxN]; exact h)
        rw [hxN] at r
        exact ih _ _ (F + 1) _ e1 e2 e3 r
theorem SW_f {M1 M : Mem} {i : Nat} {Q : Nat → Prop} (h : SW M1 Q (fun p => dt M1 52 p = true) (cC M1) M) (hi : i < 4) : M 13 (48 + i) = f13 M1 (48 + i) ∧ M 14 (48 + i) = b14 M1 (48 + i) := by
  obtain ⟨k1, k2⟩ := h.2.2.1 (48 + i) (by omega)
  have e : dt M1 52 (48 + i) = nw M1 (48 + i) := by
    unfold dt; rw [tau_f hi, decide_eq_true (by omega), Bool.and_true]
  simp only [e] at k1 k2
  have ec : cC M1 (48 + i) = ns (b13 M1) (b14 M1) (12 * (48 + i - 48)) 12 := by unfold cC; rw [if_neg (by omega), if_pos (by omega)]
  unfold f13 b14
  by_cases q : nw M1 (48 + i) = true
  · rw [if_pos q, if_pos q]
    have g := (k1 q).2.2
    rw [ec] at g
    exact ⟨g.2, g.1⟩
  · rw [if_neg q, if_neg q]
    exact ⟨(k2 q).2.2.2, (k2 q).2.2.1⟩
theorem r_wc {M1 : Mem} (hV : CV M1) : WS M1 53 (f_X4_writeChanges M1).1 (f_X4_writeChanges M1).2 := by
  have d0 : ∀ p, dt M1 0 p = false := fun p => by unfold dt; rw [decide_eq_false (by omega), Bool.and_false]
  have h0 : WS M1 (13 * 0) 0 M1 := by
    refine ⟨⟨fun _ _ _ _ _ _ _ => rfl, fun k hk => ?_, fun p hp => ?_, fun s c hs hc => ?_⟩, ?_⟩
    · simp [d0]
    · simp [d0]
    · simp [d0]
    · unfold aS
      exact (sm_0 53 (fun p _ => by simp [d0])).symm
  have h1 := r_lwc hV 5 0 0 0 M1 rfl (by omega) (by omega) h0
  unfold f_X4_writeChanges
  simp only [zlet]
  revert h1
  generalize (l_X4_writeChanges_4 5 0 0 M1).1 = w
  generalize (l_X4_writeChanges_4 5 0 0 M1).2.2 = M'
  intro h1
  have z52 : (52 : Int32).toNatClampNeg = 52 := rfl
  have hcs : f_X3_checksumOfNode 48 4 M' = cC M1 52 := by
    rw [u_ns (a := 48) (n := 4) (by decide) (by decide) (by omega)]
    unfold cC
    rw [if_neg (by omega), if_neg (by omega)]
    exact ns_congr 4 (fun i hi => SW_f h1.1 hi)
  have hbi : ∀ p, p < 53 → tau p = 52 → p = 52 := by
    intro p hp q
    unfold tau at q
    split at q
    · omega
    · split at q <;> omega
  have t52 : tau 52 = 52 := rfl
  have hd := dt_yes (M := M1) hbi t52 (by unfold nw; rw [if_neg (by omega), if_neg (by omega)])
  have hcv := hV 52 (by omega)
  obtain ⟨r1, r2⟩ := SW_repoint (p := 52) (cs := f_X3_checksumOfNode 48 4 M') h1.1 y_52 (by rw [z52]; exact fun _ => hcs.symm) (by rw [z52]; exact hcv.1) (by rw [z52]; exact hcv.2)
  rw [z52] at r1 r2
  refine ⟨?_, ?_⟩
  · obtain ⟨s1, s2, s3, s4⟩ := r2
    refine SW_congr (Q := fun p => dt M1 52 p = true ∨ p = 52) ⟨s1, fun k hk => ?_, s3, s4⟩ (fun p hp => (hd p hp).symm) (fun p hp => (hd p hp).symm)
    obtain ⟨u1, u2⟩ := s2 k hk
    exact ⟨fun q => u1 (q.resolve_right (by omega)), fun q => u2 (fun r => q (Or.inl r))⟩
  · rw [r1]
    exact aS_yes h1.2 (by omega) t52 hd
end
