/-! ===== CONSTRUCTORS: an array filled, in a world of its own ===== -/
section
abbrev zg1 (q : ZQ) (nn : Nat) : ZG := (q.1, q.2.1, q.2.2.1, q.2.2.2, [.inr (false, nn)])
def b_F (x1 : Int32) (x3 : Int32) (rec : Int32 → Mem → Int32 × Mem) (v2 : Int32) (N : Mem) : Int32 × Mem :=
  if x3 ≤ v2 then (v2, N)
  else rec (v2 + 1) (mup N 0 v2.toNatClampNeg x1)
def l_F (x1 : Int32) (x3 : Int32) : Nat → Int32 → Mem → Int32 × Mem
  | 0, v2, N => (v2, N)
  | n + 1, v2, N => b_F x1 x3 (l_F x1 x3 n) v2 N
set_option maxRecDepth 100000 in
set_option maxHeartbeats 4000000 in
theorem kl_F (q : ZQ) (nn : Nat) (x1 : Int32) (x3 : Int32) (hx3 : x3.toInt = nn) (hnn : nn < 2 ^ 30) {K : Int32 × Mem → ZR} (hx : ∀ e : Int32 × Mem, (0 : Int) ≤ e.1.toInt → Zg (zg1 q nn) mJ7_fill_53178 0 0 0 0 (K e) 20 [some (.inr 0), some (.inl x1), some (.inl e.1), some (.inl x3)] [] e.2) :
    ∀ (n : Nat) (v2 : Int32) (N : Mem), (0 : Int) ≤ v2.toInt → ((x3 : Int32).toInt - (v2 : Int32).toInt).toNat < n → Zg (zg1 q nn) mJ7_fill_53178 0 0 0 0 (zlet (l_F x1 x3 n v2 N) K) 5 [some (.inr 0), some (.inl x1), some (.inl v2), some (.inl x3)] [] N := by
  intro n
  induction n with
  | zero => intro v2 N hI hm; exact absurd hm (Nat.not_lt_zero _)
  | succ n ih =>
    intro v2 N hI hm
    show Zg _ _ _ _ _ _ (zlet (b_F x1 x3 (l_F x1 x3 n) v2 N) K) _ _ _ _
    unfold b_F
    refine zg_iload_n (x := v2) dJ7_fill_53178_5 rfl ?_
    refine zg_iload_n (x := x3) dJ7_fill_53178_6 rfl ?_
    refine zg_icmpz (tgt := 20) dJ7_fill_53178_7 rfl rfl (fun c7 => ?_) (fun c7 => ?_)
    · refine zg_st (pc' := 20) (L' := [some (.inr 0), some (.inl x1), some (.inl v2), some (.inl x3)]) (S' := []) (M' := N) rfl rfl rfl rfl ?_
      exact hx (v2, N) hI
    · refine zg_st (pc' := 10) (L' := [some (.inr 0), some (.inl x1), some (.inl v2), some (.inl x3)]) (S' := []) (M' := N) rfl rfl rfl rfl ?_
      refine zg_aload_n (x := 0) dJ7_fill_53178_10 rfl ?_
      refine zg_iload_n (x := v2) dJ7_fill_53178_11 rfl ?_
      refine zg_iload_n (x := x1) dJ7_fill_53178_12 rfl ?_
      refine zg_iast (n := nn) dJ7_fill_53178_13 rfl (by simp only [vp_in_iff, Int32.le_iff_toInt_le] at c7 hI hx3 ⊢; omega) ?_
      refine zg_iinc (v := (v2 + 1)) dJ7_fill_53178_14 rfl (by decide) rfl ?_
      refine zg_st (pc' := 17) (L' := [some (.inr 0), some (.inl x1), some (.inl (v2 + 1)), some (.inl x3)]) (S' := []) (M' := (mup N 0 v2.toNatClampNeg x1)) rfl rfl rfl rfl ?_
      refine zg_goto (tgt := 5) dJ7_fill_53178_17 rfl ?_
      refine zg_st (pc' := 5) (L' := [some (.inr 0), some (.inl x1), some (.inl (v2 + 1)), some (.inl x3)]) (S' := []) (M' := (mup N 0 v2.toNatClampNeg x1)) rfl rfl rfl rfl ?_
      exact ih (v2 + 1) (mup N 0 v2.toNatClampNeg x1) (z_ge0 c7 hI) (z_up c7 hm)
set_option maxRecDepth 100000 in
set_option maxHeartbeats 4000000 in
theorem k_F (q : ZQ) (nn : Nat) (hnn : nn < 2 ^ 30) (p1 : Int32) (M : Mem) : Zc (zg1 q nn) mJ7_fill_53178 0 0 [.inr 0, .inl p1] M (wV (l_F p1 (nI nn) (nn + 1) 0 M).2) := by
  refine Zc.of (by decide) zi_J7_fill_53178.1 (Nat.le_of_ble_eq_true rfl) rfl ?_
  show Zg _ _ _ _ _ _ (zlet (l_F p1 (nI nn) (nn + 1) 0 M) (fun s1 => wV s1.2)) _ _ _ _
  refine zg_iconst (v := 0) dJ7_fill_53178_0 rfl ?_
  refine zg_istore_n dJ7_fill_53178_1 (by decide) ?_
  refine zg_st (pc' := 2) (L' := [some (.inr 0), some (.inl p1), some (.inl 0), none]) (S' := []) (M' := M) rfl rfl rfl rfl ?_
  refine zg_aload_n (x := 0) dJ7_fill_53178_2 rfl ?_
  refine zg_alen (n := nn) (v := nI nn) dJ7_fill_53178_3 rfl rfl ?_
  refine zg_istore_n dJ7_fill_53178_4 (by decide) ?_
  refine zg_st (pc' := 5) (L' := [some (.inr 0), some (.inl p1), some (.inl 0), some (.inl (nI nn))]) (S' := []) (M' := M) rfl rfl rfl rfl ?_
  have e1 : (nI nn).toInt = (nn : Int) := nI_toInt (by omega)
  refine kl_F q nn p1 (nI nn) e1 hnn (fun s1 hI_s1 => ?_) (nn + 1) 0 M (by decide) (by rw [e1]; simp only [Int32.reduceToInt]; omega)
  exact zg_vret dJ7_fill_53178_20 rfl ⟨by decide, by decide⟩ rfl
theorem u_F (x1 x3 : Int32) : ∀ (k : Nat) (v2 : Int32) (M : Mem), 0 ≤ v2.toInt → (x3.toInt - v2.toInt).toNat + 1 ≤ k →
    ∀ j : Nat, v2.toNatClampNeg ≤ j → (j : Int) < x3.toInt → (l_F x1 x3 k v2 M).2 0 j = x1 := by
  intro k
  induction k with
  | zero => intro v2 M _ h; omega
  | succ k ih =>
    intro v2 M h0 hk j h1 h2
    show (b_F x1 x3 (l_F x1 x3 k) v2 M).2 0 j = x1
    unfold b_F
    have hN := y_N h0
    by_cases hg : x3 ≤ v2
    · rw [Int32.le_iff_toInt_le] at hg
      omega
    · rw [if_neg hg]
      have hn := z_p1 hg
      have hN' := y_N (v := v2 + 1) (by omega)
      by_cases e : j = v2.toNatClampNeg
      · have st : ∀ (k : Nat) (w : Int32) (N : Mem), 0 ≤ w.toInt → j < w.toNatClampNeg → N 0 j = x1 → (l_F x1 x3 k w N).2 0 j = x1 := by
          intro k
          induction k with
          | zero => intro w N _ _ h; exact h
          | succ k ih2 =>
            intro w N hw hj h
            show (b_F x1 x3 (l_F x1 x3 k) w N).2 0 j = x1
            unfold b_F
            by_cases hg2 : x3 ≤ w
            · rw [if_pos hg2]; exact h
            · rw [if_neg hg2]
              have hn2 := z_p1 hg2
              have a1 := y_N hw
              have a2 := y_N (v := w + 1) (by omega)
              refine ih2 (w + 1) _ (by omega) (by omega) ?_
              have : ¬ j = w.toNatClampNeg := by omega
              simp [mup, mset, upd, this, h]
        refine st k (v2 + 1) _ (by omega) (by omega) ?_
        subst e
        simp [mup, mset, upd]
      · exact ih (v2 + 1) _ (by omega) (by omega) j (by omega) h2
end
