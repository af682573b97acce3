section
/-! ===== PURE, sync: the class writes ===== -/
theorem sm_congr {g h : Nat → Int32} : ∀ n, (∀ p, p < n → g p = h p) → sm g n = sm h n := by
  intro n
  induction n with
  | zero => intro _; rfl
  | succ n ih => intro q; unfold sm; rw [ih (fun p hp => q p (by omega)), q n (by omega)]
theorem aS_no {M : Mem} {t : Nat} {v : Int32} (h : aS M t v) (hd : ∀ p, p < 53 → dt M (t + 1) p = dt M t p) : aS M (t + 1) v := by
  unfold aS at *
  rw [h]
  exact sm_congr 53 (fun p hp => by rw [hd p hp])
theorem aS_yes {M : Mem} {t p0 : Nat} {v : Int32} (h : aS M t v) (hp0 : p0 < 53) (ht : tau p0 = t) (hd : ∀ p, p < 53 → (dt M (t + 1) p = true ↔ dt M t p = true ∨ p = p0)) : aS M (t + 1) (v + cw M p0) := by
  unfold aS at *
  have e0 : dt M t p0 = false := by unfold dt; rw [decide_eq_false (show ¬ tau p0 < t by omega), Bool.and_false]
  rw [h, ← sm_upd (g := fun p => if dt M t p = true then cw M p else 0) (p := p0) (x := cw M p0) (by show (if dt M t p0 = true then cw M p0 else 0) + cw M p0 = cw M p0; rw [e0, if_neg (by decide), Int32.zero_add]) 53 hp0]
  refine sm_congr 53 (fun p hp => ?_)
  unfold upd
  by_cases e : p = p0
  · subst e
    rw [if_pos rfl, if_pos ((hd p hp).mpr (Or.inr rfl))]
  · rw [if_neg e]
    show (if dt M t p = true then cw M p else 0) = if dt M (t + 1) p = true then cw M p else 0
    by_cases q : dt M t p = true
    · rw [if_pos q, if_pos ((hd p hp).mpr (Or.inl q))]
    · rw [if_neg q, if_neg (fun w => ((hd p hp).mp w).elim q e)]
/-- what the choice is good for -/
def CV (M1 : Mem) : Prop := ∀ p, p < 53 → (cV M1 (M1 18 p) ∧ cV M1 (M1 19 p)) ∧ (M1 19 p ≠ -1 → M1 18 p ≠ -1)
/-- where the class's writing stands at the time t -/
def WS (M1 : Mem) (t : Nat) (v : Int32) (M : Mem) : Prop := SW M1 (fun p => dt M1 t p = true) (fun p => dt M1 t p = true) (cC M1) M ∧ aS M1 t v
theorem WS_no {M1 M : Mem} {t : Nat} {v : Int32} (h : WS M1 t v M) (hd : ∀ p, p < 53 → dt M1 (t + 1) p = dt M1 t p) : WS M1 (t + 1) v M :=
  ⟨SW_congr h.1 (fun p hp => by rw [hd p hp]) (fun p hp => by rw [hd p hp]), aS_no h.2 hd⟩
theorem r_lwf {M1 : Mem} {x : Int32} (hV : CV M1) (hx : 0 ≤ x.toInt ∧ x.toInt < 4) : ∀ (k : Nat) (base v2 v3 : Int32) (i : Nat) (M : Mem), v3.toInt = i → i ≤ 12 → 12 - i + 1 ≤ k → WS M1 (13 * x.toNatClampNeg + i) (base + v2) M →
    WS M1 (13 * x.toNatClampNeg + 12) (base + (l_X4_writeFile_4 x k v2 v3 M).1) (l_X4_writeFile_4 x k v2 v3 M).2.2 := by
  intro k
  induction k with
  | zero => intro base v2 v3 i _ _ _ h; omega
  | succ k ih =>
    intro base v2 v3 i M hv hi hk h
    show WS M1 (13 * x.toNatClampNeg + 12) (base + (b_X4_writeFile_4 x (l_X4_writeFile_4 x k) v2 v3 M).1) (b_X4_writeFile_4 x (l_X4_writeFile_4 x k) v2 v3 M).2.2
    unfold b_X4_writeFile_4
    have hxN := y_N hx.1
    have hx4 : x.toNatClampNeg < 4 := by omega
    by_cases hg : 12 ≤ v3
    · rw [if_pos hg]
      rw [Int32.le_iff_toInt_le] at hg
      simp only [Int32.reduceToInt] at hg
      have : i = 12 := by omega
      rw [this] at h
      exact h
    · rw [if_neg hg]
      have hn := z_p1 hg
      rw [Int32.le_iff_toInt_le] at hg
      simp only [Int32.reduceToInt] at hg
      have hi12 : i < 12 := by omega
      have hvN : v3.toNatClampNeg = i := by have := y_N (v := v3) (by omega); omega
      have hb := y_bp (a := x) (b := v3) ⟨hx, by omega⟩
      have hb3 := y_bp3 (a := x) (b := v3) ⟨hx, by omega⟩
      have ep : (12 * x + v3).toNatClampNeg = 12 * x.toNatClampNeg + i := by rw [y_12 hx (by omega), hvN]
      have hp0 : 12 * x.toNatClampNeg + i < 48 := by omega
      have hbi : ∀ p, p < 53 → tau p = 13 * x.toNatClampNeg + i → p = 12 * x.toNatClampNeg + i := fun p hp q => tau_bi hx4 hi12 hp q
      have ht0 := tau_b hx4 hi12
      have e15 : M 15 = M1 15 := h.1.1 15 (by decide) (by decide) (by decide) (by decide) (by decide) (by decide)
      have enw : nw M1 (12 * x.toNatClampNeg + i) = ! decide (M1 15 (12 * x.toNatClampNeg + i) = -1) := by unfold nw; rw [if_pos hp0]
      rw [y_pt, u_holds hb, u_changeOf hb, e15, ep]
      by_cases e : M1 15 (12 * x.toNatClampNeg + i) = -1
      · rw [show (!decide (M1 15 (12 * x.toNatClampNeg + i) = -1)) = false by simp [e]] at enw ⊢
        rw [if_neg (by decide)]
        exact ih base v2 (v3 + 1) (i + 1) M (by omega) (by omega) (by omega) (WS_no h (dt_no hbi enw))
      · rw [show (!decide (M1 15 (12 * x.toNatClampNeg + i) = -1)) = true by simp [e]] at enw ⊢
        rw [if_pos rfl]
        simp only [zlet]
        unfold f_X3_keepValue
        rw [if_pos (q_isBlockPointer.mpr hb), ep]
        have hd := dt_yes hbi ht0 enw
        have hK := SW_keep (k := 12 * x.toNatClampNeg + i) (x := M1 15 (12 * x.toNatClampNeg + i)) h.1 rfl
        have hcC : cC M1 (12 * x.toNatClampNeg + i) = 31 * M1 15 (12 * x.toNatClampNeg + i) + 17 - (31 * M1 15 (12 * x.toNatClampNeg + i) + 17) / 65521 * 65521 := by
          unfold cC; rw [if_pos hp0]; rfl
        have hcv := hV (12 * x.toNatClampNeg + i) (by omega)
        obtain ⟨r1, r2⟩ := SW_repoint (p := 12 * x + v3) (cs := 31 * M1 15 (12 * x.toNatClampNeg + i) + 17 - (31 * M1 15 (12 * x.toNatClampNeg + i) + 17) / 65521 * 65521) hK hb3 (by rw [ep]; exact fun _ => hcC) (by rw [ep]; exact hcv.1) (by rw [ep]; exact hcv.2)
        rw [ep] at r1 r2
        refine ih base _ (v3 + 1) (i + 1) _ (by omega) (by omega) (by omega) ⟨?_, ?_⟩
        · exact SW_congr r2 (fun p hp => (hd p hp).symm) (fun p hp => (hd p hp).symm)
        · rw [r1, ← Int32.add_assoc]
          exact aS_yes h.2 (by omega) ht0 hd
theorem nw_f {M : Mem} {x : Int32} (hx : 0 ≤ x.toInt ∧ x.toInt < 4) : nw M (48 + x.toNatClampNeg) = f_X2_changes x M := by
  have hxN := y_N hx.1
  unfold nw
  rw [if_neg (by omega), if_pos (by omega), show 48 + x.toNatClampNeg - 48 = x.toNatClampNeg by omega]
  rw [show nI x.toNatClampNeg = x from Int32.toInt_inj.mp (by rw [nI_toInt (by omega)]; omega)]
theorem chg_15 {M M' : Mem} {x : Int32} (hx : 0 ≤ x.toInt ∧ x.toInt < 4) (h : M' 15 = M 15) : f_X2_changes x M' = f_X2_changes x M := by
  rw [Bool.eq_iff_iff, u_ch hx, u_ch hx]; unfold ch; rw [h]
/-- the blocks' entries, once all blocks of the file are written -/
theorem SW_b {M1 M : Mem} {t F i : Nat} {Q : Nat → Prop} (h : SW M1 Q (fun p => dt M1 t p = true) (cC M1) M) (hF : F < 4) (hi : i < 12) (ht : 13 * F + 12 ≤ t) : M 13 (12 * F + i) = b13 M1 (12 * F + i) ∧ M 14 (12 * F + i) = b14 M1 (12 * F + i) := by
  obtain ⟨k1, k2⟩ := h.2.2.1 (12 * F + i) (by omega)
  have e : dt M1 t (12 * F + i) = nw M1 (12 * F + i) := by
    unfold dt; rw [tau_b hF hi, decide_eq_true (by omega), Bool.and_true]
  simp only [e] at k1 k2
  have ec : cC M1 (12 * F + i) = cB M1 (12 * F + i) := by unfold cC; rw [if_pos (by omega)]
  unfold b13 b14
  by_cases q : nw M1 (12 * F + i) = true
  · rw [if_pos q, if_pos q, ← ec]
    exact ⟨(k1 q).2.2.2, (k1 q).2.2.1⟩
  · rw [if_neg q, if_neg q]
    exact ⟨(k2 q).2.2.2, (k2 q).2.2.1⟩
theorem r_wf {M1 M : Mem} {x base : Int32} (hV : CV M1) (hx : 0 ≤ x.toInt ∧ x.toInt < 4) (hc : f_X2_changes x M1 = true) (h : WS M1 (13 * x.toNatClampNeg) base M) : WS M1 (13 * (x.toNatClampNeg + 1)) (base + (f_X4_writeFile x M).1) (f_X4_writeFile x M).2 := by
  have hxN := y_N hx.1
  have hx4 : x.toNatClampNeg < 4 := by omega
  have h1 := r_lwf hV hx 13 base 0 0 0 M rfl (by omega) (by omega) (by rw [Int32.add_zero]; exact h)
  unfold f_X4_writeFile
  simp only [zlet]
  revert h1
  generalize (l_X4_writeFile_4 x 13 0 0 M).1 = w
  generalize (l_X4_writeFile_4 x 13 0 0 M).2.2 = M'
  intro h1
  have e48 : (48 + x).toNatClampNeg = 48 + x.toNatClampNeg := y_48 hx
  have eb : (f_X4_blockPointer x 0).toInt = ((12 * x.toNatClampNeg : Nat) : Int) := by rw [y_pt, Int32.add_zero, z12' hx]; omega
  have hcs : f_X3_checksumOfNode (f_X4_blockPointer x 0) 12 M' = cC M1 (48 + x.toNatClampNeg) := by
    rw [u_ns (n := 12) eb (by decide) (by omega)]
    unfold cC
    rw [if_neg (by omega), if_pos (by omega), show 48 + x.toNatClampNeg - 48 = x.toNatClampNeg by omega]
    exact ns_congr 12 (fun i hi => SW_b h1.1 hx4 hi (Nat.le_refl _))
  have hbi : ∀ p, p < 53 → tau p = 13 * x.toNatClampNeg + 12 → p = 48 + x.toNatClampNeg := fun p hp q => tau_fi hx4 hp q
  have hd := dt_yes hbi (tau_f hx4) (by rw [nw_f hx]; exact hc)
  have hcv := hV (48 + x.toNatClampNeg) (by omega)
  obtain ⟨r1, r2⟩ := SW_repoint (p := 48 + x) (cs := f_X3_checksumOfNode (f_X4_blockPointer x 0) 12 M') h1.1 (y_fp hx) (by rw [e48]; exact fun _ => hcs.symm) (by rw [e48]; exact hcv.1) (by rw [e48]; exact hcv.2)
  rw [e48] at r1 r2
  rw [show f_X4_filePointer x = 48 + x from rfl, show 13 * (x.toNatClampNeg + 1) = 13 * x.toNatClampNeg + 12 + 1 by omega]
  refine ⟨?_, ?_⟩
  · obtain ⟨s1, s2, s3, s4⟩ := r2
    refine SW_congr (Q := fun p => dt M1 (13 * x.toNatClampNeg + 12) p = true ∨ p = 48 + x.toNatClampNeg) ⟨s1, fun k hk => ?_, s3, s4⟩ (fun p hp => (hd p hp).symm) (fun p hp => (hd p hp).symm)
    obtain ⟨u1, u2⟩ := s2 k hk
    exact ⟨fun q => u1 (q.resolve_right (by omega)), fun q => u2 (fun r => q (Or.inl r))⟩
  · rw [r1, ← Int32.add_assoc]
    exact aS_yes h1.2 (by omega) (tau_f hx4) hd
end
