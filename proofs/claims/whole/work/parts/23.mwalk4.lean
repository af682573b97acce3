theorem dX5_mark_0 : decode cX5_mark 0 = .ok (.iload_n 1, 1) := by decide +kernel
theorem dX5_mark_1 : decode cX5_mark 1 = .ok (.iconst (-1), 1) := by decide +kernel
theorem dX5_mark_2 : decode cX5_mark 2 = .ok (.if_icmp .eq 10, 3) := by decide +kernel
theorem dX5_mark_5 : decode cX5_mark 5 = .ok (.aload_n 0, 1) := by decide +kernel
theorem dX5_mark_6 : decode cX5_mark 6 = .ok (.getfield 51, 3) := by decide +kernel
theorem dX5_mark_9 : decode cX5_mark 9 = .ok (.iload_n 1, 1) := by decide +kernel
theorem dX5_mark_10 : decode cX5_mark 10 = .ok (.iconst 1, 1) := by decide +kernel
theorem dX5_mark_11 : decode cX5_mark 11 = .ok (.bastore, 1) := by decide +kernel
theorem dX5_mark_12 : decode cX5_mark 12 = .ok (.return_, 1) := by decide +kernel
def f_X5_mark (p1 : Int32) (M : Mem) : Mem :=
  if p1 = (-1) then M
  else (mup M 13 p1.toNatClampNeg 1)
set_option maxRecDepth 100000 in
set_option maxHeartbeats 4000000 in
theorem k_X5_mark (q : ZQ) (p1 : Int32) (M : Mem) (hp : -1 ≤ p1.toInt ∧ p1.toInt < 120) : Zc (zgM q) mX5_mark 0 0 [.inr 0, .inl p1] M (wV (f_X5_mark p1 M)) := by
  refine Zc.of (by decide) zi_X5_mark.1 (Nat.le_of_ble_eq_true rfl) rfl ?_
  show Zg _ _ _ _ _ _ (zlet (f_X5_mark p1 M) wV) _ _ _ _
  unfold f_X5_mark
  refine zg_iload_n (x := p1) dX5_mark_0 rfl ?_
  refine zg_iconst (v := (-1)) dX5_mark_1 rfl ?_
  refine zg_icmpz (tgt := 12) dX5_mark_2 rfl rfl (fun c2 => ?_) (fun c2 => ?_)
  · refine zg_st (pc' := 12) (L' := [some (.inr 0), some (.inl p1)]) (S' := []) (M' := M) rfl rfl rfl rfl ?_
    exact zg_vret dX5_mark_12 rfl ⟨by decide, by decide⟩ rfl
  · refine zg_st (pc' := 5) (L' := [some (.inr 0), some (.inl p1)]) (S' := []) (M' := M) rfl rfl rfl rfl ?_
    refine zg_aload_n (x := 0) dX5_mark_5 rfl ?_
    refine zg_getf (v := .inr 13) dX5_mark_6 zf_X5_51 rfl rfl rfl ?_
    refine zg_iload_n (x := p1) dX5_mark_9 rfl ?_
    refine zg_iconst (v := 1) dX5_mark_10 rfl ?_
    refine zg_zast (v := 1) dX5_mark_11 rfl (z_nn hp c2) rfl ?_
    exact zg_vret dX5_mark_12 rfl ⟨by decide, by decide⟩ rfl
theorem dX5_clean_0 : decode cX5_clean 0 = .ok (.iconst 0, 1) := by decide +kernel
theorem dX5_clean_1 : decode cX5_clean 1 = .ok (.istore_n 2, 1) := by decide +kernel
theorem dX5_clean_2 : decode cX5_clean 2 = .ok (.iload_n 2, 1) := by decide +kernel
theorem dX5_clean_3 : decode cX5_clean 3 = .ok (.iconst 2, 1) := by decide +kernel
theorem dX5_clean_4 : decode cX5_clean 4 = .ok (.if_icmp .ge 41, 3) := by decide +kernel
theorem dX5_clean_7 : decode cX5_clean 7 = .ok (.iload_n 1, 1) := by decide +kernel
theorem dX5_clean_8 : decode cX5_clean 8 = .ok (.iconst (-1), 1) := by decide +kernel
theorem dX5_clean_9 : decode cX5_clean 9 = .ok (.if_icmp .eq 36, 3) := by decide +kernel
theorem dX5_clean_12 : decode cX5_clean 12 = .ok (.aload_n 0, 1) := by decide +kernel
theorem dX5_clean_13 : decode cX5_clean 13 = .ok (.getfield 42, 3) := by decide +kernel
theorem dX5_clean_16 : decode cX5_clean 16 = .ok (.iconst 2, 1) := by decide +kernel
theorem dX5_clean_17 : decode cX5_clean 17 = .ok (.iload_n 1, 1) := by decide +kernel
theorem dX5_clean_18 : decode cX5_clean 18 = .ok (.bipush 40, 2) := by decide +kernel
theorem dX5_clean_20 : decode cX5_clean 20 = .ok (.idiv, 1) := by decide +kernel
theorem dX5_clean_21 : decode cX5_clean 21 = .ok (.imul, 1) := by decide +kernel
theorem dX5_clean_22 : decode cX5_clean 22 = .ok (.iload_n 2, 1) := by decide +kernel
theorem dX5_clean_23 : decode cX5_clean 23 = .ok (.iadd, 1) := by decide +kernel
theorem dX5_clean_24 : decode cX5_clean 24 = .ok (.baload, 1) := by decide +kernel
theorem dX5_clean_25 : decode cX5_clean 25 = .ok (.ifCond .ne 14, 3) := by decide +kernel
theorem dX5_clean_28 : decode cX5_clean 28 = .ok (.aload_n 0, 1) := by decide +kernel
theorem dX5_clean_29 : decode cX5_clean 29 = .ok (.getfield 39, 3) := by decide +kernel
theorem dX5_clean_32 : decode cX5_clean 32 = .ok (.iconst 2, 1) := by decide +kernel
theorem dX5_clean_33 : decode cX5_clean 33 = .ok (.iload_n 1, 1) := by decide +kernel
theorem dX5_clean_34 : decode cX5_clean 34 = .ok (.imul, 1) := by decide +kernel
theorem dX5_clean_35 : decode cX5_clean 35 = .ok (.iload_n 2, 1) := by decide +kernel
theorem dX5_clean_36 : decode cX5_clean 36 = .ok (.iadd, 1) := by decide +kernel
theorem dX5_clean_37 : decode cX5_clean 37 = .ok (.iconst 0, 1) := by decide +kernel
theorem dX5_clean_38 : decode cX5_clean 38 = .ok (.bastore, 1) := by decide +kernel
theorem dX5_clean_39 : decode cX5_clean 39 = .ok (.iinc 2 1, 3) := by decide +kernel
theorem dX5_clean_42 : decode cX5_clean 42 = .ok (.goto (-40), 3) := by decide +kernel
theorem dX5_clean_45 : decode cX5_clean 45 = .ok (.return_, 1) := by decide +kernel
def b_X5_clean_2 (x1 : Int32) (rec : Int32 → Mem → Int32 × Mem) (v2 : Int32) (N : Mem) : Int32 × Mem :=
  if 2 ≤ v2 then (v2, N)
  else if x1 = (-1) then (v2, N)
  else if ¬ (N 10 ((2 * (x1 / 40)) + v2).toNatClampNeg) = 0 then rec (v2 + 1) N
  else rec (v2 + 1) (mup N 9 ((2 * x1) + v2).toNatClampNeg 0)
def l_X5_clean_2 (x1 : Int32) : Nat → Int32 → Mem → Int32 × Mem
  | 0, v2, N => (v2, N)
  | n + 1, v2, N => b_X5_clean_2 x1 (l_X5_clean_2 x1 n) v2 N
set_option maxRecDepth 100000 in
set_option maxHeartbeats 4000000 in
theorem kl_X5_clean_2 (q : ZQ) (x1 : Int32) (hx1 : -1 ≤ x1.toInt ∧ x1.toInt < 120) {K : Int32 × Mem → ZR} (hx : ∀ e : Int32 × Mem, (0 : Int) ≤ e.1.toInt → Zg (zgM q) mX5_clean 0 0 0 0 (K e) 45 [some (.inr 0), some (.inl x1), some (.inl e.1)] [] e.2) :
    ∀ (n : Nat) (v2 : Int32) (N : Mem), (0 : Int) ≤ v2.toInt → ((2 : Int32).toInt - (v2 : Int32).toInt).toNat < n → Zg (zgM q) mX5_clean 0 0 0 0 (zlet (l_X5_clean_2 x1 n v2 N) K) 2 [some (.inr 0), some (.inl x1), some (.inl v2)] [] N := by
  intro n
  induction n with
  | zero => intro v2 N hI hm; exact absurd hm (Nat.not_lt_zero _)
  | succ n ih =>
    intro v2 N hI hm
    show Zg _ _ _ _ _ _ (zlet (b_X5_clean_2 x1 (l_X5_clean_2 x1 n) v2 N) K) _ _ _ _
    unfold b_X5_clean_2
    refine zg_iload_n (x := v2) dX5_clean_2 rfl ?_
    refine zg_iconst (v := 2) dX5_clean_3 rfl ?_
    refine zg_icmpz (tgt := 45) dX5_clean_4 rfl rfl (fun c4 => ?_) (fun c4 => ?_)
    · refine zg_st (pc' := 45) (L' := [some (.inr 0), some (.inl x1), some (.inl v2)]) (S' := []) (M' := N) rfl rfl rfl rfl ?_
      refine zg_drop (L' := [some (.inr 0), some (.inl x1), some (.inl v2)]) ⟨rfl, rfl, rfl, trivial⟩ ?_
      exact hx (v2, N) hI
    · refine zg_st (pc' := 7) (L' := [some (.inr 0), some (.inl x1), some (.inl v2)]) (S' := []) (M' := N) rfl rfl rfl rfl ?_
      refine zg_iload_n (x := x1) dX5_clean_7 rfl ?_
      refine zg_iconst (v := (-1)) dX5_clean_8 rfl ?_
      refine zg_icmpz (tgt := 45) dX5_clean_9 rfl rfl (fun c9 => ?_) (fun c9 => ?_)
      · refine zg_st (pc' := 45) (L' := [some (.inr 0), some (.inl x1), some (.inl v2)]) (S' := []) (M' := N) rfl rfl rfl rfl ?_
        refine zg_drop (L' := [some (.inr 0), some (.inl x1), some (.inl v2)]) ⟨rfl, rfl, rfl, trivial⟩ ?_
        exact hx (v2, N) hI
      · refine zg_st (pc' := 12) (L' := [some (.inr 0), some (.inl x1), some (.inl v2)]) (S' := []) (M' := N) rfl rfl rfl rfl ?_
        refine zg_aload_n (x := 0) dX5_clean_12 rfl ?_
        refine zg_getf (v := .inr 10) dX5_clean_13 zf_X5_42 rfl rfl rfl ?_
        refine zg_iconst (v := 2) dX5_clean_16 rfl ?_
        refine zg_iload_n (x := x1) dX5_clean_17 rfl ?_
        refine zg_bipush (v := 40) dX5_clean_18 rfl ?_
        refine zg_idiv dX5_clean_20 (by decide) ?_
        refine zg_imul dX5_clean_21 ?_
        refine zg_iload_n (x := v2) dX5_clean_22 rfl ?_
        refine zg_iadd dX5_clean_23 ?_
        refine zg_zald dX5_clean_24 rfl (z_g1 ⟨hx1, hI, z_lt2 c4⟩ c9) ?_
        refine zg_ifz (tgt := 39) dX5_clean_25 rfl rfl (fun c25 => ?_) (fun c25 => ?_)
        · refine zg_st (pc' := 39) (L' := [some (.inr 0), some (.inl x1), some (.inl v2)]) (S' := []) (M' := N) rfl rfl rfl rfl ?_
          refine zg_iinc (v := (v2 + 1)) dX5_clean_39 rfl (by decide) rfl ?_
          refine zg_st (pc' := 42) (L' := [some (.inr 0), some (.inl x1), some (.inl (v2 + 1))]) (S' := []) (M' := N) rfl rfl rfl rfl ?_
          refine zg_goto (tgt := 2) dX5_clean_42 rfl ?_
          refine zg_st (pc' := 2) (L' := [some (.inr 0), some (.inl x1), some (.inl (v2 + 1))]) (S' := []) (M' := N) rfl rfl rfl rfl ?_
          refine zg_drop (L' := [some (.inr 0), some (.inl x1), some (.inl (v2 + 1))]) ⟨rfl, rfl, rfl, trivial⟩ ?_
          exact ih (v2 + 1) N (z_ge0 c4 hI) (z_up c4 hm)
        · refine zg_st (pc' := 28) (L' := [some (.inr 0), some (.inl x1), some (.inl v2)]) (S' := []) (M' := N) rfl rfl rfl rfl ?_
          refine zg_aload_n (x := 0) dX5_clean_28 rfl ?_
          refine zg_getf (v := .inr 9) dX5_clean_29 zf_X5_39 rfl rfl rfl ?_
          refine zg_iconst (v := 2) dX5_clean_32 rfl ?_
          refine zg_iload_n (x := x1) dX5_clean_33 rfl ?_
          refine zg_imul dX5_clean_34 ?_
          refine zg_iload_n (x := v2) dX5_clean_35 rfl ?_
          refine zg_iadd dX5_clean_36 ?_
          refine zg_iconst (v := 0) dX5_clean_37 rfl ?_
          refine zg_zast (v := 0) dX5_clean_38 rfl (z_g2 ⟨hx1, hI, z_lt2 c4⟩ c9) rfl ?_
          refine zg_iinc (v := (v2 + 1)) dX5_clean_39 rfl (by decide) rfl ?_
          refine zg_st (pc' := 42) (L' := [some (.inr 0), some (.inl x1), some (.inl (v2 + 1))]) (S' := []) (M' := (mup N 9 ((2 * x1) + v2).toNatClampNeg 0)) rfl rfl rfl rfl ?_
          refine zg_goto (tgt := 2) dX5_clean_42 rfl ?_
          refine zg_st (pc' := 2) (L' := [some (.inr 0), some (.inl x1), some (.inl (v2 + 1))]) (S' := []) (M' := (mup N 9 ((2 * x1) + v2).toNatClampNeg 0)) rfl rfl rfl rfl ?_
          refine zg_drop (L' := [some (.inr 0), some (.inl x1), some (.inl (v2 + 1))]) ⟨rfl, rfl, rfl, trivial⟩ ?_
          exact ih (v2 + 1) (mup N 9 ((2 * x1) + v2).toNatClampNeg 0) (z_ge0 c4 hI) (z_up c4 hm)
def f_X5_clean (p1 : Int32) (M : Mem) : Mem :=
  zlet (l_X5_clean_2 p1 3 0 M) (fun s1 =>
  s1.2)
set_option maxRecDepth 100000 in
set_option maxHeartbeats 4000000 in
theorem k_X5_clean (q : ZQ) (p1 : Int32) (M : Mem) (hp : -1 ≤ p1.toInt ∧ p1.toInt < 120) : Zc (zgM q) mX5_clean 0 0 [.inr 0, .inl p1] M (wV (f_X5_clean p1 M)) := by
  refine Zc.of (by decide) zi_X5_clean.1 (Nat.le_of_ble_eq_true rfl) rfl ?_
  show Zg _ _ _ _ _ _ (zlet (f_X5_clean p1 M) wV) _ _ _ _
  unfold f_X5_clean
  refine zg_iconst (v := 0) dX5_clean_0 rfl ?_
  refine zg_istore_n dX5_clean_1 (by decide) ?_
  refine zg_st (pc' := 2) (L' := [some (.inr 0), some (.inl p1), some (.inl 0)]) (S' := []) (M' := M) rfl rfl rfl rfl ?_
  refine zg_asc ?_
  refine zg_drop (L' := [some (.inr 0), some (.inl p1), some (.inl 0)]) ⟨rfl, rfl, rfl, trivial⟩ ?_
  refine kl_X5_clean_2 q p1  hp (fun s1 hI_s1 => ?_) 3 0 M (by decide) (by decide)
  try dsimp only [Sum.elim_inr]
  refine zg_st (pc' := 45) (L' := [some (.inr 0), some (.inl p1), some (.inl s1.1)]) (S' := []) (M' := s1.2) rfl rfl rfl rfl ?_
  exact zg_vret dX5_clean_45 rfl ⟨by decide, by decide⟩ rfl
theorem dX5_nodeSum_0 : decode cX5_nodeSum 0 = .ok (.iconst 1, 1) := by decide +kernel
theorem dX5_nodeSum_1 : decode cX5_nodeSum 1 = .ok (.istore_n 3, 1) := by decide +kernel
theorem dX5_nodeSum_2 : decode cX5_nodeSum 2 = .ok (.iload_n 1, 1) := by decide +kernel
theorem dX5_nodeSum_3 : decode cX5_nodeSum 3 = .ok (.istore 4, 2) := by decide +kernel
theorem dX5_nodeSum_5 : decode cX5_nodeSum 5 = .ok (.iload 4, 2) := by decide +kernel
theorem dX5_nodeSum_7 : decode cX5_nodeSum 7 = .ok (.iload_n 1, 1) := by decide +kernel
theorem dX5_nodeSum_8 : decode cX5_nodeSum 8 = .ok (.iload_n 2, 1) := by decide +kernel
theorem dX5_nodeSum_9 : decode cX5_nodeSum 9 = .ok (.iadd, 1) := by decide +kernel
theorem dX5_nodeSum_10 : decode cX5_nodeSum 10 = .ok (.if_icmp .ge 34, 3) := by decide +kernel
theorem dX5_nodeSum_13 : decode cX5_nodeSum 13 = .ok (.iload_n 3, 1) := by decide +kernel
theorem dX5_nodeSum_14 : decode cX5_nodeSum 14 = .ok (.sipush 131, 3) := by decide +kernel
theorem dX5_nodeSum_17 : decode cX5_nodeSum 17 = .ok (.imul, 1) := by decide +kernel
theorem dX5_nodeSum_18 : decode cX5_nodeSum 18 = .ok (.aload_n 0, 1) := by decide +kernel
theorem dX5_nodeSum_19 : decode cX5_nodeSum 19 = .ok (.getfield 32, 3) := by decide +kernel
theorem dX5_nodeSum_22 : decode cX5_nodeSum 22 = .ok (.iload 4, 2) := by decide +kernel
theorem dX5_nodeSum_24 : decode cX5_nodeSum 24 = .ok (.iaload, 1) := by decide +kernel
theorem dX5_nodeSum_25 : decode cX5_nodeSum 25 = .ok (.iadd, 1) := by decide +kernel
theorem dX5_nodeSum_26 : decode cX5_nodeSum 26 = .ok (.aload_n 0, 1) := by decide +kernel
theorem dX5_nodeSum_27 : decode cX5_nodeSum 27 = .ok (.getfield 29, 3) := by decide +kernel
theorem dX5_nodeSum_30 : decode cX5_nodeSum 30 = .ok (.iload 4, 2) := by decide +kernel
theorem dX5_nodeSum_32 : decode cX5_nodeSum 32 = .ok (.iaload, 1) := by decide +kernel
theorem dX5_nodeSum_33 : decode cX5_nodeSum 33 = .ok (.iadd, 1) := by decide +kernel
theorem dX5_nodeSum_34 : decode cX5_nodeSum 34 = .ok (.ldc 128, 2) := by decide +kernel
theorem dX5_nodeSum_36 : decode cX5_nodeSum 36 = .ok (.irem, 1) := by decide +kernel
theorem dX5_nodeSum_37 : decode cX5_nodeSum 37 = .ok (.istore_n 3, 1) := by decide +kernel
theorem dX5_nodeSum_38 : decode cX5_nodeSum 38 = .ok (.iinc 4 1, 3) := by decide +kernel
theorem dX5_nodeSum_41 : decode cX5_nodeSum 41 = .ok (.goto (-36), 3) := by decide +kernel
theorem dX5_nodeSum_44 : decode cX5_nodeSum 44 = .ok (.iload_n 3, 1) := by decide +kernel
theorem dX5_nodeSum_45 : decode cX5_nodeSum 45 = .ok (.ireturn, 1) := by decide +kernel
def b_X5_nodeSum_5 (x1 : Int32) (x2 : Int32) (M : Mem) (rec : Int32 → Int32 → Int32 × Int32) (v3 : Int32) (v4 : Int32) : Int32 × Int32 :=
  if (x1 + x2) ≤ v4 then (v3, v4)
  else rec ((((v3 * 131) + (M 7 v4.toNatClampNeg)) + (M 6 v4.toNatClampNeg)) - (((v3 * 131) + (M 7 v4.toNatClampNeg)) + (M 6 v4.toNatClampNeg)) / 65521 * 65521) (v4 + 1)
def l_X5_nodeSum_5 (x1 : Int32) (x2 : Int32) (M : Mem) : Nat → Int32 → Int32 → Int32 × Int32
  | 0, v3, v4 => (v3, v4)
  | n + 1, v3, v4 => b_X5_nodeSum_5 x1 x2 M (l_X5_nodeSum_5 x1 x2 M n) v3 v4
set_option maxRecDepth 100000 in
set_option maxHeartbeats 4000000 in
theorem kl_X5_nodeSum_5 (q : ZQ) (x1 : Int32) (x2 : Int32) (M : Mem) (hy : 0 ≤ x1.toInt ∧ 0 ≤ x2.toInt ∧ x1.toInt + x2.toInt ≤ 53) {K : Int32 × Int32 → ZR} (hx : ∀ e : Int32 × Int32, (0 : Int) ≤ e.2.toInt → Zg (zgM q) mX5_nodeSum 0 0 0 0 (K e) 44 [some (.inr 0), some (.inl x1), some (.inl x2), some (.inl e.1), some (.inl e.2)] [] M) :
    ∀ (n : Nat) (v3 : Int32) (v4 : Int32), (0 : Int) ≤ v4.toInt → (((x1 + x2) : Int32).toInt - (v4 : Int32).toInt).toNat < n → Zg (zgM q) mX5_nodeSum 0 0 0 0 (zlet (l_X5_nodeSum_5 x1 x2 M n v3 v4) K) 5 [some (.inr 0), some (.inl x1), some (.inl x2), some (.inl v3), some (.inl v4)] [] M := by
  intro n
  induction n with
  | zero => intro v3 v4 hI hm; exact absurd hm (Nat.not_lt_zero _)
  | succ n ih =>
    intro v3 v4 hI hm
    show Zg _ _ _ _ _ _ (zlet (b_X5_nodeSum_5 x1 x2 M (l_X5_nodeSum_5 x1 x2 M n) v3 v4) K) _ _ _ _
    unfold b_X5_nodeSum_5
    refine zg_iload (x := v4) dX5_nodeSum_5 rfl ?_
    refine zg_iload_n (x := x1) dX5_nodeSum_7 rfl ?_
    refine zg_iload_n (x := x2) dX5_nodeSum_8 rfl ?_
    refine zg_iadd dX5_nodeSum_9 ?_
    refine zg_icmpz (tgt := 44) dX5_nodeSum_10 rfl rfl (fun c10 => ?_) (fun c10 => ?_)
    · refine zg_st (pc' := 44) (L' := [some (.inr 0), some (.inl x1), some (.inl x2), some (.inl v3), some (.inl v4)]) (S' := []) (M' := M) rfl rfl rfl rfl ?_
      refine zg_drop (L' := [some (.inr 0), some (.inl x1), some (.inl x2), some (.inl v3), some (.inl v4)]) ⟨rfl, rfl, rfl, rfl, rfl, trivial⟩ ?_
      exact hx (v3, v4) hI
    · refine zg_st (pc' := 13) (L' := [some (.inr 0), some (.inl x1), some (.inl x2), some (.inl v3), some (.inl v4)]) (S' := []) (M' := M) rfl rfl rfl rfl ?_
      refine zg_iload_n (x := v3) dX5_nodeSum_13 rfl ?_
      refine zg_sipush (v := 131) dX5_nodeSum_14 rfl ?_
      refine zg_imul dX5_nodeSum_17 ?_
      refine zg_aload_n (x := 0) dX5_nodeSum_18 rfl ?_
      refine zg_getf (v := .inr 7) dX5_nodeSum_19 zf_X5_32 rfl rfl rfl ?_
      refine zg_iload (x := v4) dX5_nodeSum_22 rfl ?_
      refine zg_iald dX5_nodeSum_24 rfl (z_ns c10 hy hI) ?_
      refine zg_iadd dX5_nodeSum_25 ?_
      refine zg_aload_n (x := 0) dX5_nodeSum_26 rfl ?_
      refine zg_getf (v := .inr 6) dX5_nodeSum_27 zf_X5_29 rfl rfl rfl ?_
      refine zg_iload (x := v4) dX5_nodeSum_30 rfl ?_
      refine zg_iald dX5_nodeSum_32 rfl (z_ns c10 hy hI) ?_
      refine zg_iadd dX5_nodeSum_33 ?_
      refine zg_ldc (v := 65521) dX5_nodeSum_34 (zm4 146 (by decide +kernel) rfl) ?_
      refine zg_irem dX5_nodeSum_36 (by decide) ?_
      refine zg_istore_n dX5_nodeSum_37 (by decide) ?_
      refine zg_st (pc' := 38) (L' := [some (.inr 0), some (.inl x1), some (.inl x2), some (.inl ((((v3 * 131) + (M 7 v4.toNatClampNeg)) + (M 6 v4.toNatClampNeg)) - (((v3 * 131) + (M 7 v4.toNatClampNeg)) + (M 6 v4.toNatClampNeg)) / 65521 * 65521)), some (.inl v4)]) (S' := []) (M' := M) rfl rfl rfl rfl ?_
      refine zg_iinc (v := (v4 + 1)) dX5_nodeSum_38 rfl (by decide) rfl ?_
      refine zg_st (pc' := 41) (L' := [some (.inr 0), some (.inl x1), some (.inl x2), some (.inl ((((v3 * 131) + (M 7 v4.toNatClampNeg)) + (M 6 v4.toNatClampNeg)) - (((v3 * 131) + (M 7 v4.toNatClampNeg)) + (M 6 v4.toNatClampNeg)) / 65521 * 65521)), some (.inl (v4 + 1))]) (S' := []) (M' := M) rfl rfl rfl rfl ?_
      refine zg_goto (tgt := 5) dX5_nodeSum_41 rfl ?_
      refine zg_st (pc' := 5) (L' := [some (.inr 0), some (.inl x1), some (.inl x2), some (.inl ((((v3 * 131) + (M 7 v4.toNatClampNeg)) + (M 6 v4.toNatClampNeg)) - (((v3 * 131) + (M 7 v4.toNatClampNeg)) + (M 6 v4.toNatClampNeg)) / 65521 * 65521)), some (.inl (v4 + 1))]) (S' := []) (M' := M) rfl rfl rfl rfl ?_
      refine zg_drop (L' := [some (.inr 0), some (.inl x1), some (.inl x2), some (.inl ((((v3 * 131) + (M 7 v4.toNatClampNeg)) + (M 6 v4.toNatClampNeg)) - (((v3 * 131) + (M 7 v4.toNatClampNeg)) + (M 6 v4.toNatClampNeg)) / 65521 * 65521)), some (.inl (v4 + 1))]) ⟨rfl, rfl, rfl, rfl, rfl, trivial⟩ ?_
      exact ih ((((v3 * 131) + (M 7 v4.toNatClampNeg)) + (M 6 v4.toNatClampNeg)) - (((v3 * 131) + (M 7 v4.toNatClampNeg)) + (M 6 v4.toNatClampNeg)) / 65521 * 65521) (v4 + 1) (z_ge0 c10 hI) (z_up c10 hm)
def f_X5_nodeSum (p1 : Int32) (p2 : Int32) (M : Mem) : Int32 :=
  zlet (l_X5_nodeSum_5 p1 p2 M ((((p1 + p2) : Int32).toInt - (p1 : Int32).toInt).toNat + 1) 1 p1) (fun s1 =>
  s1.1)
set_option maxRecDepth 100000 in
set_option maxHeartbeats 4000000 in
theorem k_X5_nodeSum (q : ZQ) (p1 : Int32) (p2 : Int32) (M : Mem) (hp : 0 ≤ p1.toInt ∧ 0 ≤ p2.toInt ∧ p1.toInt + p2.toInt ≤ 53) : Zc (zgM q) mX5_nodeSum 0 0 [.inr 0, .inl p1, .inl p2] M (wI M (f_X5_nodeSum p1 p2 M)) := by
  refine Zc.of (by decide) zi_X5_nodeSum.1 (Nat.le_of_ble_eq_true rfl) rfl ?_
  show Zg _ _ _ _ _ _ (zlet (f_X5_nodeSum p1 p2 M) (wI M)) _ _ _ _
  unfold f_X5_nodeSum
  refine zg_iconst (v := 1) dX5_nodeSum_0 rfl ?_
  refine zg_istore_n dX5_nodeSum_1 (by decide) ?_
  refine zg_st (pc' := 2) (L' := [some (.inr 0), some (.inl p1), some (.inl p2), some (.inl 1), none]) (S' := []) (M' := M) rfl rfl rfl rfl ?_
  refine zg_iload_n (x := p1) dX5_nodeSum_2 rfl ?_
  refine zg_istore dX5_nodeSum_3 (by decide) ?_
  refine zg_st (pc' := 5) (L' := [some (.inr 0), some (.inl p1), some (.inl p2), some (.inl 1), some (.inl p1)]) (S' := []) (M' := M) rfl rfl rfl rfl ?_
  refine zg_asc ?_
  refine zg_drop (L' := [some (.inr 0), some (.inl p1), some (.inl p2), some (.inl 1), some (.inl p1)]) ⟨rfl, rfl, rfl, rfl, rfl, trivial⟩ ?_
  refine kl_X5_nodeSum_5 q p1 p2 M hp (fun s1 hI_s1 => ?_) ((((p1 + p2) : Int32).toInt - (p1 : Int32).toInt).toNat + 1) 1 p1 hp.1 (Nat.lt_succ_self _)
  try dsimp only [Sum.elim_inr]
  refine zg_st (pc' := 44) (L' := [some (.inr 0), some (.inl p1), some (.inl p2), some (.inl s1.1), some (.inl s1.2)]) (S' := []) (M' := M) rfl rfl rfl rfl ?_
  refine zg_iload_n (x := s1.1) dX5_nodeSum_44 rfl ?_
  exact zg_iret dX5_nodeSum_45 rfl rfl ⟨by decide, by decide⟩ rfl
theorem dX5_sumOf_0 : decode cX5_sumOf 0 = .ok (.iload_n 1, 1) := by decide +kernel
theorem dX5_sumOf_1 : decode cX5_sumOf 1 = .ok (.bipush 48, 2) := by decide +kernel
theorem dX5_sumOf_3 : decode cX5_sumOf 3 = .ok (.if_icmp .ge 21, 3) := by decide +kernel
theorem dX5_sumOf_6 : decode cX5_sumOf 6 = .ok (.bipush 31, 2) := by decide +kernel
theorem dX5_sumOf_8 : decode cX5_sumOf 8 = .ok (.aload_n 0, 1) := by decide +kernel
theorem dX5_sumOf_9 : decode cX5_sumOf 9 = .ok (.getfield 17, 3) := by decide +kernel
theorem dX5_sumOf_12 : decode cX5_sumOf 12 = .ok (.iload_n 1, 1) := by decide +kernel
theorem dX5_sumOf_13 : decode cX5_sumOf 13 = .ok (.iaload, 1) := by decide +kernel
theorem dX5_sumOf_14 : decode cX5_sumOf 14 = .ok (.imul, 1) := by decide +kernel
theorem dX5_sumOf_15 : decode cX5_sumOf 15 = .ok (.bipush 17, 2) := by decide +kernel
theorem dX5_sumOf_17 : decode cX5_sumOf 17 = .ok (.iadd, 1) := by decide +kernel
theorem dX5_sumOf_18 : decode cX5_sumOf 18 = .ok (.ldc 128, 2) := by decide +kernel
theorem dX5_sumOf_20 : decode cX5_sumOf 20 = .ok (.irem, 1) := by decide +kernel
theorem dX5_sumOf_21 : decode cX5_sumOf 21 = .ok (.goto 32, 3) := by decide +kernel
theorem dX5_sumOf_24 : decode cX5_sumOf 24 = .ok (.iload_n 1, 1) := by decide +kernel
theorem dX5_sumOf_25 : decode cX5_sumOf 25 = .ok (.bipush 52, 2) := by decide +kernel
theorem dX5_sumOf_27 : decode cX5_sumOf 27 = .ok (.if_icmp .ne 13, 3) := by decide +kernel
theorem dX5_sumOf_30 : decode cX5_sumOf 30 = .ok (.aload_n 0, 1) := by decide +kernel
theorem dX5_sumOf_31 : decode cX5_sumOf 31 = .ok (.bipush 48, 2) := by decide +kernel
theorem dX5_sumOf_33 : decode cX5_sumOf 33 = .ok (.iconst 4, 1) := by decide +kernel
theorem dX5_sumOf_34 : decode cX5_sumOf 34 = .ok (.invokevirtual 129, 3) := by decide +kernel
theorem dX5_sumOf_37 : decode cX5_sumOf 37 = .ok (.goto 16, 3) := by decide +kernel
theorem dX5_sumOf_40 : decode cX5_sumOf 40 = .ok (.aload_n 0, 1) := by decide +kernel
theorem dX5_sumOf_41 : decode cX5_sumOf 41 = .ok (.bipush 12, 2) := by decide +kernel
theorem dX5_sumOf_43 : decode cX5_sumOf 43 = .ok (.iload_n 1, 1) := by decide +kernel
theorem dX5_sumOf_44 : decode cX5_sumOf 44 = .ok (.bipush 48, 2) := by decide +kernel
theorem dX5_sumOf_46 : decode cX5_sumOf 46 = .ok (.isub, 1) := by decide +kernel
theorem dX5_sumOf_47 : decode cX5_sumOf 47 = .ok (.imul, 1) := by decide +kernel
theorem dX5_sumOf_48 : decode cX5_sumOf 48 = .ok (.bipush 12, 2) := by decide +kernel
theorem dX5_sumOf_50 : decode cX5_sumOf 50 = .ok (.invokevirtual 129, 3) := by decide +kernel
theorem dX5_sumOf_53 : decode cX5_sumOf 53 = .ok (.ireturn, 1) := by decide +kernel
def f_X5_sumOf (p1 : Int32) (M : Mem) : Int32 :=
  if 48 ≤ p1 then if ¬ p1 = 52 then (f_X5_nodeSum (12 * (p1 - 48)) 12 M)
    else (f_X5_nodeSum 48 4 M)
  else (((31 * (M 2 p1.toNatClampNeg)) + 17) - ((31 * (M 2 p1.toNatClampNeg)) + 17) / 65521 * 65521)
set_option maxRecDepth 100000 in
set_option maxHeartbeats 4000000 in
theorem k_X5_sumOf (q : ZQ) (p1 : Int32) (M : Mem) (hp : vp_in p1 53) : Zc (zgM q) mX5_sumOf 0 0 [.inr 0, .inl p1] M (wI M (f_X5_sumOf p1 M)) := by
  refine Zc.of (by decide) zi_X5_sumOf.1 (Nat.le_of_ble_eq_true rfl) rfl ?_
  show Zg _ _ _ _ _ _ (zlet (f_X5_sumOf p1 M) (wI M)) _ _ _ _
  unfold f_X5_sumOf
  refine zg_iload_n (x := p1) dX5_sumOf_0 rfl ?_
  refine zg_bipush (v := 48) dX5_sumOf_1 rfl ?_
  refine zg_icmpz (tgt := 24) dX5_sumOf_3 rfl rfl (fun c3 => ?_) (fun c3 => ?_)
  · refine zg_st (pc' := 24) (L' := [some (.inr 0), some (.inl p1)]) (S' := []) (M' := M) rfl rfl rfl rfl ?_
    refine zg_iload_n (x := p1) dX5_sumOf_24 rfl ?_
    refine zg_bipush (v := 52) dX5_sumOf_25 rfl ?_
    refine zg_icmpz (tgt := 40) dX5_sumOf_27 rfl rfl (fun c27 => ?_) (fun c27 => ?_)
    · refine zg_st (pc' := 40) (L' := [some (.inr 0), some (.inl p1)]) (S' := []) (M' := M) rfl rfl rfl rfl ?_
      refine zg_aload_n (x := 0) dX5_sumOf_40 rfl ?_
      refine zg_bipush (v := 12) dX5_sumOf_41 rfl ?_
      refine zg_iload_n (x := p1) dX5_sumOf_43 rfl ?_
      refine zg_bipush (v := 48) dX5_sumOf_44 rfl ?_
      refine zg_isub dX5_sumOf_46 ?_
      refine zg_imul dX5_sumOf_47 ?_
      refine zg_bipush (v := 12) dX5_sumOf_48 rfl ?_
      refine zg_cV1 (As := [.inl (12 * (p1 - 48)), .inl 12]) (S := []) (v := (f_X5_nodeSum (12 * (p1 - 48)) 12 M)) dX5_sumOf_50 zk_X5_129 (k_X5_nodeSum q (12 * (p1 - 48)) 12 M (by first | with_reducible exact z_so hp c3 c27 | decide)) rfl rfl ⟨by decide, by decide⟩ ⟨by decide, by decide⟩ rfl (Nat.le_of_ble_eq_true rfl) ?_
      refine zg_st (pc' := 53) (L' := [some (.inr 0), some (.inl p1)]) (S' := [.inl (f_X5_nodeSum (12 * (p1 - 48)) 12 M)]) (M' := M) rfl rfl rfl rfl ?_
      exact zg_iret dX5_sumOf_53 rfl rfl ⟨by decide, by decide⟩ rfl
    · refine zg_st (pc' := 30) (L' := [some (.inr 0), some (.inl p1)]) (S' := []) (M' := M) rfl rfl rfl rfl ?_
      refine zg_aload_n (x := 0) dX5_sumOf_30 rfl ?_
      refine zg_bipush (v := 48) dX5_sumOf_31 rfl ?_
      refine zg_iconst (v := 4) dX5_sumOf_33 rfl ?_
      refine zg_cV1 (As := [.inl 48, .inl 4]) (S := []) (v := (f_X5_nodeSum 48 4 M)) dX5_sumOf_34 zk_X5_129 (k_X5_nodeSum q 48 4 M (by first | with_reducible exact z_so hp c3 c27 | decide)) rfl rfl ⟨by decide, by decide⟩ ⟨by decide, by decide⟩ rfl (Nat.le_of_ble_eq_true rfl) ?_
      refine zg_st (pc' := 37) (L' := [some (.inr 0), some (.inl p1)]) (S' := [.inl (f_X5_nodeSum 48 4 M)]) (M' := M) rfl rfl rfl rfl ?_
      refine zg_goto (tgt := 53) dX5_sumOf_37 rfl ?_
      refine zg_st (pc' := 53) (L' := [some (.inr 0), some (.inl p1)]) (S' := [.inl (f_X5_nodeSum 48 4 M)]) (M' := M) rfl rfl rfl rfl ?_
      exact zg_iret dX5_sumOf_53 rfl rfl ⟨by decide, by decide⟩ rfl
  · refine zg_st (pc' := 6) (L' := [some (.inr 0), some (.inl p1)]) (S' := []) (M' := M) rfl rfl rfl rfl ?_
    refine zg_bipush (v := 31) dX5_sumOf_6 rfl ?_
    refine zg_aload_n (x := 0) dX5_sumOf_8 rfl ?_
    refine zg_getf (v := .inr 2) dX5_sumOf_9 zf_X5_17 rfl rfl rfl ?_
    refine zg_iload_n (x := p1) dX5_sumOf_12 rfl ?_
    refine zg_iald dX5_sumOf_13 rfl (z_lt48 hp c3) ?_
    refine zg_imul dX5_sumOf_14 ?_
    refine zg_bipush (v := 17) dX5_sumOf_15 rfl ?_
    refine zg_iadd dX5_sumOf_17 ?_
    refine zg_ldc (v := 65521) dX5_sumOf_18 (zm4 146 (by decide +kernel) rfl) ?_
    refine zg_irem dX5_sumOf_20 (by decide) ?_
    refine zg_goto (tgt := 53) dX5_sumOf_21 rfl ?_
    refine zg_st (pc' := 53) (L' := [some (.inr 0), some (.inl p1)]) (S' := [.inl (((31 * (M 2 p1.toNatClampNeg)) + 17) - ((31 * (M 2 p1.toNatClampNeg)) + 17) / 65521 * 65521)]) (M' := M) rfl rfl rfl rfl ?_
    exact zg_iret dX5_sumOf_53 rfl rfl ⟨by decide, by decide⟩ rfl
theorem dX5_countBuffered_0 : decode cX5_countBuffered 0 = .ok (.iconst 0, 1) := by decide +kernel
theorem dX5_countBuffered_1 : decode cX5_countBuffered 1 = .ok (.istore_n 1, 1) := by decide +kernel
theorem dX5_countBuffered_2 : decode cX5_countBuffered 2 = .ok (.iconst 0, 1) := by decide +kernel
theorem dX5_countBuffered_3 : decode cX5_countBuffered 3 = .ok (.istore_n 2, 1) := by decide +kernel
theorem dX5_countBuffered_4 : decode cX5_countBuffered 4 = .ok (.iload_n 2, 1) := by decide +kernel
theorem dX5_countBuffered_5 : decode cX5_countBuffered 5 = .ok (.bipush 48, 2) := by decide +kernel
theorem dX5_countBuffered_7 : decode cX5_countBuffered 7 = .ok (.if_icmp .ge 27, 3) := by decide +kernel
theorem dX5_countBuffered_10 : decode cX5_countBuffered 10 = .ok (.iload_n 1, 1) := by decide +kernel
theorem dX5_countBuffered_11 : decode cX5_countBuffered 11 = .ok (.aload_n 0, 1) := by decide +kernel
theorem dX5_countBuffered_12 : decode cX5_countBuffered 12 = .ok (.getfield 20, 3) := by decide +kernel
theorem dX5_countBuffered_15 : decode cX5_countBuffered 15 = .ok (.iload_n 2, 1) := by decide +kernel
theorem dX5_countBuffered_16 : decode cX5_countBuffered 16 = .ok (.iaload, 1) := by decide +kernel
theorem dX5_countBuffered_17 : decode cX5_countBuffered 17 = .ok (.iconst (-1), 1) := by decide +kernel
theorem dX5_countBuffered_18 : decode cX5_countBuffered 18 = .ok (.if_icmp .ne 7, 3) := by decide +kernel
theorem dX5_countBuffered_21 : decode cX5_countBuffered 21 = .ok (.iconst 0, 1) := by decide +kernel
theorem dX5_countBuffered_22 : decode cX5_countBuffered 22 = .ok (.goto 4, 3) := by decide +kernel
theorem dX5_countBuffered_25 : decode cX5_countBuffered 25 = .ok (.iconst 1, 1) := by decide +kernel
theorem dX5_countBuffered_26 : decode cX5_countBuffered 26 = .ok (.iadd, 1) := by decide +kernel
theorem dX5_countBuffered_27 : decode cX5_countBuffered 27 = .ok (.istore_n 1, 1) := by decide +kernel
theorem dX5_countBuffered_28 : decode cX5_countBuffered 28 = .ok (.iinc 2 1, 3) := by decide +kernel
theorem dX5_countBuffered_31 : decode cX5_countBuffered 31 = .ok (.goto (-27), 3) := by decide +kernel
theorem dX5_countBuffered_34 : decode cX5_countBuffered 34 = .ok (.iload_n 1, 1) := by decide +kernel
theorem dX5_countBuffered_35 : decode cX5_countBuffered 35 = .ok (.ireturn, 1) := by decide +kernel
def b_X5_countBuffered_4 (M : Mem) (rec : Int32 → Int32 → Int32 × Int32) (v1 : Int32) (v2 : Int32) : Int32 × Int32 :=
  if 48 ≤ v2 then (v1, v2)
  else if ¬ (M 3 v2.toNatClampNeg) = (-1) then rec (v1 + 1) (v2 + 1)
  else rec (v1 + 0) (v2 + 1)
def l_X5_countBuffered_4 (M : Mem) : Nat → Int32 → Int32 → Int32 × Int32
  | 0, v1, v2 => (v1, v2)
  | n + 1, v1, v2 => b_X5_countBuffered_4 M (l_X5_countBuffered_4 M n) v1 v2
set_option maxRecDepth 100000 in
set_option maxHeartbeats 4000000 in
theorem kl_X5_countBuffered_4 (q : ZQ) (M : Mem) {K : Int32 × Int32 → ZR} (hx : ∀ e : Int32 × Int32, (0 : Int) ≤ e.2.toInt → Zg (zgM q) mX5_countBuffered 0 0 0 0 (K e) 34 [some (.inr 0), some (.inl e.1), some (.inl e.2)] [] M) :
    ∀ (n : Nat) (v1 : Int32) (v2 : Int32), (0 : Int) ≤ v2.toInt → ((48 : Int32).toInt - (v2 : Int32).toInt).toNat < n → Zg (zgM q) mX5_countBuffered 0 0 0 0 (zlet (l_X5_countBuffered_4 M n v1 v2) K) 4 [some (.inr 0), some (.inl v1), some (.inl v2)] [] M := by
  intro n
  induction n with
  | zero => intro v1 v2 hI hm; exact absurd hm (Nat.not_lt_zero _)
  | succ n ih =>
    intro v1 v2 hI hm
    show Zg _ _ _ _ _ _ (zlet (b_X5_countBuffered_4 M (l_X5_countBuffered_4 M n) v1 v2) K) _ _ _ _
    unfold b_X5_countBuffered_4
    refine zg_iload_n (x := v2) dX5_countBuffered_4 rfl ?_
    refine zg_bipush (v := 48) dX5_countBuffered_5 rfl ?_
    refine zg_icmpz (tgt := 34) dX5_countBuffered_7 rfl rfl (fun c7 => ?_) (fun c7 => ?_)
    · refine zg_st (pc' := 34) (L' := [some (.inr 0), some (.inl v1), some (.inl v2)]) (S' := []) (M' := M) rfl rfl rfl rfl ?_
      refine zg_drop (L' := [some (.inr 0), some (.inl v1), some (.inl v2)]) ⟨rfl, rfl, rfl, trivial⟩ ?_
      exact hx (v1, v2) hI
    · refine zg_st (pc' := 10) (L' := [some (.inr 0), some (.inl v1), some (.inl v2)]) (S' := []) (M' := M) rfl rfl rfl rfl ?_
      refine zg_iload_n (x := v1) dX5_countBuffered_10 rfl ?_
      refine zg_aload_n (x := 0) dX5_countBuffered_11 rfl ?_
      refine zg_getf (v := .inr 3) dX5_countBuffered_12 zf_X5_20 rfl rfl rfl ?_
      refine zg_iload_n (x := v2) dX5_countBuffered_15 rfl ?_
      refine zg_iald dX5_countBuffered_16 rfl (z_lt c7 rfl hI) ?_
      refine zg_iconst (v := (-1)) dX5_countBuffered_17 rfl ?_
      refine zg_icmpz (tgt := 25) dX5_countBuffered_18 rfl rfl (fun c18 => ?_) (fun c18 => ?_)
      · refine zg_st (pc' := 25) (L' := [some (.inr 0), some (.inl v1), some (.inl v2)]) (S' := [.inl v1]) (M' := M) rfl rfl rfl rfl ?_
        refine zg_iconst (v := 1) dX5_countBuffered_25 rfl ?_
        refine zg_iadd dX5_countBuffered_26 ?_
        refine zg_istore_n dX5_countBuffered_27 (by decide) ?_
        refine zg_st (pc' := 28) (L' := [some (.inr 0), some (.inl (v1 + 1)), some (.inl v2)]) (S' := []) (M' := M) rfl rfl rfl rfl ?_
        refine zg_iinc (v := (v2 + 1)) dX5_countBuffered_28 rfl (by decide) rfl ?_
        refine zg_st (pc' := 31) (L' := [some (.inr 0), some (.inl (v1 + 1)), some (.inl (v2 + 1))]) (S' := []) (M' := M) rfl rfl rfl rfl ?_
        refine zg_goto (tgt := 4) dX5_countBuffered_31 rfl ?_
        refine zg_st (pc' := 4) (L' := [some (.inr 0), some (.inl (v1 + 1)), some (.inl (v2 + 1))]) (S' := []) (M' := M) rfl rfl rfl rfl ?_
        refine zg_drop (L' := [some (.inr 0), some (.inl (v1 + 1)), some (.inl (v2 + 1))]) ⟨rfl, rfl, rfl, trivial⟩ ?_
        exact ih (v1 + 1) (v2 + 1) (z_ge0 c7 hI) (z_up c7 hm)
      · refine zg_st (pc' := 21) (L' := [some (.inr 0), some (.inl v1), some (.inl v2)]) (S' := [.inl v1]) (M' := M) rfl rfl rfl rfl ?_
        refine zg_iconst (v := 0) dX5_countBuffered_21 rfl ?_
        refine zg_goto (tgt := 26) dX5_countBuffered_22 rfl ?_
        refine zg_st (pc' := 26) (L' := [some (.inr 0), some (.inl v1), some (.inl v2)]) (S' := [.inl 0, .inl v1]) (M' := M) rfl rfl rfl rfl ?_
        refine zg_iadd dX5_countBuffered_26 ?_
        refine zg_istore_n dX5_countBuffered_27 (by decide) ?_
        refine zg_st (pc' := 28) (L' := [some (.inr 0), some (.inl (v1 + 0)), some (.inl v2)]) (S' := []) (M' := M) rfl rfl rfl rfl ?_
        refine zg_iinc (v := (v2 + 1)) dX5_countBuffered_28 rfl (by decide) rfl ?_
        refine zg_st (pc' := 31) (L' := [some (.inr 0), some (.inl (v1 + 0)), some (.inl (v2 + 1))]) (S' := []) (M' := M) rfl rfl rfl rfl ?_
        refine zg_goto (tgt := 4) dX5_countBuffered_31 rfl ?_
        refine zg_st (pc' := 4) (L' := [some (.inr 0), some (.inl (v1 + 0)), some (.inl (v2 + 1))]) (S' := []) (M' := M) rfl rfl rfl rfl ?_
        refine zg_drop (L' := [some (.inr 0), some (.inl (v1 + 0)), some (.inl (v2 + 1))]) ⟨rfl, rfl, rfl, trivial⟩ ?_
        exact ih (v1 + 0) (v2 + 1) (z_ge0 c7 hI) (z_up c7 hm)
def f_X5_countBuffered (M : Mem) : Int32 :=
  zlet (l_X5_countBuffered_4 M 49 0 0) (fun s1 =>
  s1.1)
set_option maxRecDepth 100000 in
set_option maxHeartbeats 4000000 in
theorem k_X5_countBuffered (q : ZQ) (M : Mem) : Zc (zgM q) mX5_countBuffered 0 0 [.inr 0] M (wI M (f_X5_countBuffered M)) := by
  refine Zc.of (by decide) zi_X5_countBuffered.1 (Nat.le_of_ble_eq_true rfl) rfl ?_
  show Zg _ _ _ _ _ _ (zlet (f_X5_countBuffered M) (wI M)) _ _ _ _
  unfold f_X5_countBuffered
  refine zg_iconst (v := 0) dX5_countBuffered_0 rfl ?_
  refine zg_istore_n dX5_countBuffered_1 (by decide) ?_
  refine zg_st (pc' := 2) (L' := [some (.inr 0), some (.inl 0), none]) (S' := []) (M' := M) rfl rfl rfl rfl ?_
  refine zg_iconst (v := 0) dX5_countBuffered_2 rfl ?_
  refine zg_istore_n dX5_countBuffered_3 (by decide) ?_
  refine zg_st (pc' := 4) (L' := [some (.inr 0), some (.inl 0), some (.inl 0)]) (S' := []) (M' := M) rfl rfl rfl rfl ?_
  refine zg_asc ?_
  refine zg_drop (L' := [some (.inr 0), some (.inl 0), some (.inl 0)]) ⟨rfl, rfl, rfl, trivial⟩ ?_
  refine kl_X5_countBuffered_4 q M (fun s1 hI_s1 => ?_) 49 0 0 (by decide) (by decide)
  try dsimp only [Sum.elim_inr]
  refine zg_st (pc' := 34) (L' := [some (.inr 0), some (.inl s1.1), some (.inl s1.2)]) (S' := []) (M' := M) rfl rfl rfl rfl ?_
  refine zg_iload_n (x := s1.1) dX5_countBuffered_34 rfl ?_
  exact zg_iret dX5_countBuffered_35 rfl rfl ⟨by decide, by decide⟩ rfl
theorem dX5_abandon_0 : decode cX5_abandon 0 = .ok (.aload_n 0, 1) := by decide +kernel
theorem dX5_abandon_1 : decode cX5_abandon 1 = .ok (.invokevirtual 145, 3) := by decide +kernel
theorem dX5_abandon_4 : decode cX5_abandon 4 = .ok (.istore_n 1, 1) := by decide +kernel
theorem dX5_abandon_5 : decode cX5_abandon 5 = .ok (.iconst 0, 1) := by decide +kernel
theorem dX5_abandon_6 : decode cX5_abandon 6 = .ok (.istore_n 2, 1) := by decide +kernel
theorem dX5_abandon_7 : decode cX5_abandon 7 = .ok (.iload_n 2, 1) := by decide +kernel
theorem dX5_abandon_8 : decode cX5_abandon 8 = .ok (.bipush 48, 2) := by decide +kernel
theorem dX5_abandon_10 : decode cX5_abandon 10 = .ok (.if_icmp .ge 16, 3) := by decide +kernel
theorem dX5_abandon_13 : decode cX5_abandon 13 = .ok (.aload_n 0, 1) := by decide +kernel
theorem dX5_abandon_14 : decode cX5_abandon 14 = .ok (.getfield 20, 3) := by decide +kernel
theorem dX5_abandon_17 : decode cX5_abandon 17 = .ok (.iload_n 2, 1) := by decide +kernel
theorem dX5_abandon_18 : decode cX5_abandon 18 = .ok (.iconst (-1), 1) := by decide +kernel
theorem dX5_abandon_19 : decode cX5_abandon 19 = .ok (.iastore, 1) := by decide +kernel
theorem dX5_abandon_20 : decode cX5_abandon 20 = .ok (.iinc 2 1, 3) := by decide +kernel
theorem dX5_abandon_23 : decode cX5_abandon 23 = .ok (.goto (-16), 3) := by decide +kernel
theorem dX5_abandon_26 : decode cX5_abandon 26 = .ok (.aload_n 0, 1) := by decide +kernel
theorem dX5_abandon_27 : decode cX5_abandon 27 = .ok (.iload_n 1, 1) := by decide +kernel
theorem dX5_abandon_28 : decode cX5_abandon 28 = .ok (.invokevirtual 149, 3) := by decide +kernel
theorem dX5_abandon_31 : decode cX5_abandon 31 = .ok (.ireturn, 1) := by decide +kernel
def b_X5_abandon_7 (x1 : Int32) (rec : Int32 → Mem → Int32 × Mem) (v2 : Int32) (N : Mem) : Int32 × Mem :=
  if 48 ≤ v2 then (v2, N)
  else rec (v2 + 1) (mup N 3 v2.toNatClampNeg (-1))
def l_X5_abandon_7 (x1 : Int32) : Nat → Int32 → Mem → Int32 × Mem
  | 0, v2, N => (v2, N)
  | n + 1, v2, N => b_X5_abandon_7 x1 (l_X5_abandon_7 x1 n) v2 N
set_option maxRecDepth 100000 in
set_option maxHeartbeats 4000000 in
theorem kl_X5_abandon_7 (q : ZQ) (x1 : Int32) {K : Int32 × Mem → ZR} (hx : ∀ e : Int32 × Mem, (0 : Int) ≤ e.1.toInt → Zg (zgM q) mX5_abandon 0 0 0 0 (K e) 26 [some (.inr 0), some (.inl x1), some (.inl e.1)] [] e.2) :
    ∀ (n : Nat) (v2 : Int32) (N : Mem), (0 : Int) ≤ v2.toInt → ((48 : Int32).toInt - (v2 : Int32).toInt).toNat < n → Zg (zgM q) mX5_abandon 0 0 0 0 (zlet (l_X5_abandon_7 x1 n v2 N) K) 7 [some (.inr 0), some (.inl x1), some (.inl v2)] [] N := by
  intro n
  induction n with
  | zero => intro v2 N hI hm; exact absurd hm (Nat.not_lt_zero _)
  | succ n ih =>
    intro v2 N hI hm
    show Zg _ _ _ _ _ _ (zlet (b_X5_abandon_7 x1 (l_X5_abandon_7 x1 n) v2 N) K) _ _ _ _
    unfold b_X5_abandon_7
    refine zg_iload_n (x := v2) dX5_abandon_7 rfl ?_
    refine zg_bipush (v := 48) dX5_abandon_8 rfl ?_
    refine zg_icmpz (tgt := 26) dX5_abandon_10 rfl rfl (fun c10 => ?_) (fun c10 => ?_)
    · refine zg_st (pc' := 26) (L' := [some (.inr 0), some (.inl x1), some (.inl v2)]) (S' := []) (M' := N) rfl rfl rfl rfl ?_
      refine zg_drop (L' := [some (.inr 0), some (.inl x1), some (.inl v2)]) ⟨rfl, rfl, rfl, trivial⟩ ?_
      exact hx (v2, N) hI
    · refine zg_st (pc' := 13) (L' := [some (.inr 0), some (.inl x1), some (.inl v2)]) (S' := []) (M' := N) rfl rfl rfl rfl ?_
      refine zg_aload_n (x := 0) dX5_abandon_13 rfl ?_
      refine zg_getf (v := .inr 3) dX5_abandon_14 zf_X5_20 rfl rfl rfl ?_
      refine zg_iload_n (x := v2) dX5_abandon_17 rfl ?_
      refine zg_iconst (v := (-1)) dX5_abandon_18 rfl ?_
      refine zg_iast dX5_abandon_19 rfl (z_lt c10 rfl hI) ?_
      refine zg_iinc (v := (v2 + 1)) dX5_abandon_20 rfl (by decide) rfl ?_
      refine zg_st (pc' := 23) (L' := [some (.inr 0), some (.inl x1), some (.inl (v2 + 1))]) (S' := []) (M' := (mup N 3 v2.toNatClampNeg (-1))) rfl rfl rfl rfl ?_
      refine zg_goto (tgt := 7) dX5_abandon_23 rfl ?_
      refine zg_st (pc' := 7) (L' := [some (.inr 0), some (.inl x1), some (.inl (v2 + 1))]) (S' := []) (M' := (mup N 3 v2.toNatClampNeg (-1))) rfl rfl rfl rfl ?_
      refine zg_drop (L' := [some (.inr 0), some (.inl x1), some (.inl (v2 + 1))]) ⟨rfl, rfl, rfl, trivial⟩ ?_
      exact ih (v2 + 1) (mup N 3 v2.toNatClampNeg (-1)) (z_ge0 c10 hI) (z_up c10 hm)
def f_X5_abandon (M : Mem) : (Int32 × Mem) :=
  zlet (l_X5_abandon_7 (f_X5_countBuffered M) 49 0 M) (fun s1 =>
  ((f_X5_countBuffered M), (mup s1.2 0 0 0)))
set_option maxRecDepth 100000 in
set_option maxHeartbeats 4000000 in
theorem k_X5_abandon (q : ZQ) (M : Mem) : Zc (zgM q) mX5_abandon 0 0 [.inr 0] M (wIM (f_X5_abandon M)) := by
  refine Zc.of (by decide) zi_X5_abandon.1 (Nat.le_of_ble_eq_true rfl) rfl ?_
  show Zg _ _ _ _ _ _ (zlet (f_X5_abandon M) wIM) _ _ _ _
  unfold f_X5_abandon
  refine zg_aload_n (x := 0) dX5_abandon_0 rfl ?_
  refine zg_cV1 (As := []) (S := []) (v := (f_X5_countBuffered M)) dX5_abandon_1 zk_X5_145 (k_X5_countBuffered q M) rfl rfl ⟨by decide, by decide⟩ ⟨by decide, by decide⟩ rfl (Nat.le_of_ble_eq_true rfl) ?_
  refine zg_st (pc' := 4) (L' := [some (.inr 0), none, none]) (S' := [.inl (f_X5_countBuffered M)]) (M' := M) rfl rfl rfl rfl ?_
  refine zg_istore_n dX5_abandon_4 (by decide) ?_
  refine zg_st (pc' := 5) (L' := [some (.inr 0), some (.inl (f_X5_countBuffered M)), none]) (S' := []) (M' := M) rfl rfl rfl rfl ?_
  refine zg_iconst (v := 0) dX5_abandon_5 rfl ?_
  refine zg_istore_n dX5_abandon_6 (by decide) ?_
  refine zg_st (pc' := 7) (L' := [some (.inr 0), some (.inl (f_X5_countBuffered M)), some (.inl 0)]) (S' := []) (M' := M) rfl rfl rfl rfl ?_
  refine zg_asc ?_
  refine zg_drop (L' := [some (.inr 0), some (.inl (f_X5_countBuffered M)), some (.inl 0)]) ⟨rfl, rfl, rfl, trivial⟩ ?_
  refine kl_X5_abandon_7 q (f_X5_countBuffered M)  (fun s1 hI_s1 => ?_) 49 0 M (by decide) (by decide)
  try dsimp only [Sum.elim_inr]
  refine zg_st (pc' := 26) (L' := [some (.inr 0), some (.inl (f_X5_countBuffered M)), some (.inl s1.1)]) (S' := []) (M' := s1.2) rfl rfl rfl rfl ?_
  refine zg_aload_n (x := 0) dX5_abandon_26 rfl ?_
  refine zg_iload_n (x := (f_X5_countBuffered M)) dX5_abandon_27 rfl ?_
  refine zg_cV1 (As := [.inl (f_X5_countBuffered M)]) (S := []) (v := (f_X5_countBuffered M)) (N0 := (mup s1.2 0 0 0)) dX5_abandon_28 zk_X5_149 (k_X5_fine q (f_X5_countBuffered M) s1.2) rfl rfl ⟨by decide, by decide⟩ ⟨by decide, by decide⟩ rfl (Nat.le_of_ble_eq_true rfl) ?_
  refine zg_st (pc' := 31) (L' := [some (.inr 0), some (.inl (f_X5_countBuffered M)), some (.inl s1.1)]) (S' := [.inl (f_X5_countBuffered M)]) (M' := (mup s1.2 0 0 0)) rfl rfl rfl rfl ?_
  exact zg_iret dX5_abandon_31 rfl rfl ⟨by decide, by decide⟩ rfl
theorem dX5_group_0 : decode cX5_group 0 = .ok (.aload_n 0, 1) := by decide +kernel
theorem dX5_group_1 : decode cX5_group 1 = .ok (.aload_n 0, 1) := by decide +kernel
theorem dX5_group_2 : decode cX5_group 2 = .ok (.getfield 7, 3) := by decide +kernel
theorem dX5_group_5 : decode cX5_group 5 = .ok (.invokevirtual 149, 3) := by decide +kernel
theorem dX5_group_8 : decode cX5_group 8 = .ok (.ireturn, 1) := by decide +kernel
def f_X5_group (M : Mem) : (Int32 × Mem) :=
  ((M 0 1), (mup M 0 0 0))
set_option maxRecDepth 100000 in
set_option maxHeartbeats 4000000 in
theorem k_X5_group (q : ZQ) (M : Mem) : Zc (zgM q) mX5_group 0 0 [.inr 0] M (wIM (f_X5_group M)) := by
  refine Zc.of (by decide) zi_X5_group.1 (Nat.le_of_ble_eq_true rfl) rfl ?_
  show Zg _ _ _ _ _ _ (zlet (f_X5_group M) wIM) _ _ _ _
  unfold f_X5_group
  refine zg_aload_n (x := 0) dX5_group_0 rfl ?_
  refine zg_aload_n (x := 0) dX5_group_1 rfl ?_
  refine zg_getf (v := .inl (M 0 1)) dX5_group_2 zf_X5_7 rfl rfl rfl ?_
  refine zg_cV1 (As := [.inl (M 0 1)]) (S := []) (v := (M 0 1)) (N0 := (mup M 0 0 0)) dX5_group_5 zk_X5_149 (k_X5_fine q (M 0 1) M) rfl rfl ⟨by decide, by decide⟩ ⟨by decide, by decide⟩ rfl (Nat.le_of_ble_eq_true rfl) ?_
  refine zg_st (pc' := 8) (L' := [some (.inr 0)]) (S' := [.inl (M 0 1)]) (M' := (mup M 0 0 0)) rfl rfl rfl rfl ?_
  exact zg_iret dX5_group_8 rfl rfl ⟨by decide, by decide⟩ rfl
theorem dX5_buffered_0 : decode cX5_buffered 0 = .ok (.aload_n 0, 1) := by decide +kernel
theorem dX5_buffered_1 : decode cX5_buffered 1 = .ok (.aload_n 0, 1) := by decide +kernel
theorem dX5_buffered_2 : decode cX5_buffered 2 = .ok (.invokevirtual 145, 3) := by decide +kernel
theorem dX5_buffered_5 : decode cX5_buffered 5 = .ok (.invokevirtual 149, 3) := by decide +kernel
theorem dX5_buffered_8 : decode cX5_buffered 8 = .ok (.ireturn, 1) := by decide +kernel
def f_X5_buffered (M : Mem) : (Int32 × Mem) :=
  ((f_X5_countBuffered M), (mup M 0 0 0))
set_option maxRecDepth 100000 in
set_option maxHeartbeats 4000000 in
theorem k_X5_buffered (q : ZQ) (M : Mem) : Zc (zgM q) mX5_buffered 0 0 [.inr 0] M (wIM (f_X5_buffered M)) := by
  refine Zc.of (by decide) zi_X5_buffered.1 (Nat.le_of_ble_eq_true rfl) rfl ?_
  show Zg _ _ _ _ _ _ (zlet (f_X5_buffered M) wIM) _ _ _ _
  unfold f_X5_buffered
  refine zg_aload_n (x := 0) dX5_buffered_0 rfl ?_
  refine zg_aload_n (x := 0) dX5_buffered_1 rfl ?_
  refine zg_cV1 (As := []) (S := [.inr 0]) (v := (f_X5_countBuffered M)) dX5_buffered_2 zk_X5_145 (k_X5_countBuffered q M) rfl rfl ⟨by decide, by decide⟩ ⟨by decide, by decide⟩ rfl (Nat.le_of_ble_eq_true rfl) ?_
  refine zg_st (pc' := 5) (L' := [some (.inr 0)]) (S' := [.inl (f_X5_countBuffered M), .inr 0]) (M' := M) rfl rfl rfl rfl ?_
  refine zg_cV1 (As := [.inl (f_X5_countBuffered M)]) (S := []) (v := (f_X5_countBuffered M)) (N0 := (mup M 0 0 0)) dX5_buffered_5 zk_X5_149 (k_X5_fine q (f_X5_countBuffered M) M) rfl rfl ⟨by decide, by decide⟩ ⟨by decide, by decide⟩ rfl (Nat.le_of_ble_eq_true rfl) ?_
  refine zg_st (pc' := 8) (L' := [some (.inr 0)]) (S' := [.inl (f_X5_countBuffered M)]) (M' := (mup M 0 0 0)) rfl rfl rfl rfl ?_
  exact zg_iret dX5_buffered_8 rfl rfl ⟨by decide, by decide⟩ rfl
