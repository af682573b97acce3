theorem dX5_hasData_0 : decode cX5_hasData 0 = .ok (.iconst 0, 1) := by decide +kernel
theorem dX5_hasData_1 : decode cX5_hasData 1 = .ok (.istore_n 2, 1) := by decide +kernel
theorem dX5_hasData_2 : decode cX5_hasData 2 = .ok (.bipush 12, 2) := by decide +kernel
theorem dX5_hasData_4 : decode cX5_hasData 4 = .ok (.iload_n 1, 1) := by decide +kernel
theorem dX5_hasData_5 : decode cX5_hasData 5 = .ok (.imul, 1) := by decide +kernel
theorem dX5_hasData_6 : decode cX5_hasData 6 = .ok (.istore_n 3, 1) := by decide +kernel
theorem dX5_hasData_7 : decode cX5_hasData 7 = .ok (.iload_n 3, 1) := by decide +kernel
theorem dX5_hasData_8 : decode cX5_hasData 8 = .ok (.bipush 12, 2) := by decide +kernel
theorem dX5_hasData_10 : decode cX5_hasData 10 = .ok (.iload_n 1, 1) := by decide +kernel
theorem dX5_hasData_11 : decode cX5_hasData 11 = .ok (.imul, 1) := by decide +kernel
theorem dX5_hasData_12 : decode cX5_hasData 12 = .ok (.bipush 12, 2) := by decide +kernel
theorem dX5_hasData_14 : decode cX5_hasData 14 = .ok (.iadd, 1) := by decide +kernel
theorem dX5_hasData_15 : decode cX5_hasData 15 = .ok (.if_icmp .ge 27, 3) := by decide +kernel
theorem dX5_hasData_18 : decode cX5_hasData 18 = .ok (.iload_n 2, 1) := by decide +kernel
theorem dX5_hasData_19 : decode cX5_hasData 19 = .ok (.ifCond .ne 11, 3) := by decide +kernel
theorem dX5_hasData_22 : decode cX5_hasData 22 = .ok (.aload_n 0, 1) := by decide +kernel
theorem dX5_hasData_23 : decode cX5_hasData 23 = .ok (.iload_n 3, 1) := by decide +kernel
theorem dX5_hasData_24 : decode cX5_hasData 24 = .ok (.invokevirtual 78, 3) := by decide +kernel
theorem dX5_hasData_27 : decode cX5_hasData 27 = .ok (.ifCond .eq 7, 3) := by decide +kernel
theorem dX5_hasData_30 : decode cX5_hasData 30 = .ok (.iconst 1, 1) := by decide +kernel
theorem dX5_hasData_31 : decode cX5_hasData 31 = .ok (.goto 4, 3) := by decide +kernel
theorem dX5_hasData_34 : decode cX5_hasData 34 = .ok (.iconst 0, 1) := by decide +kernel
theorem dX5_hasData_35 : decode cX5_hasData 35 = .ok (.istore_n 2, 1) := by decide +kernel
theorem dX5_hasData_36 : decode cX5_hasData 36 = .ok (.iinc 3 1, 3) := by decide +kernel
theorem dX5_hasData_39 : decode cX5_hasData 39 = .ok (.goto (-32), 3) := by decide +kernel
theorem dX5_hasData_42 : decode cX5_hasData 42 = .ok (.iload_n 2, 1) := by decide +kernel
theorem dX5_hasData_43 : decode cX5_hasData 43 = .ok (.ireturn, 1) := by decide +kernel
def b_X5_hasData_7 (x1 : Int32) (M : Mem) (rec : Bool → Int32 → Bool × Int32) (v2 : Bool) (v3 : Int32) : Bool × Int32 :=
  if ((12 * x1) + 12) ≤ v3 then (v2, v3)
  else if v2 then rec true (v3 + 1)
  else if (f_X5_now v3 M) = 0 then rec false (v3 + 1)
  else rec true (v3 + 1)
def l_X5_hasData_7 (x1 : Int32) (M : Mem) : Nat → Bool → Int32 → Bool × Int32
  | 0, v2, v3 => (v2, v3)
  | n + 1, v2, v3 => b_X5_hasData_7 x1 M (l_X5_hasData_7 x1 M n) v2 v3
set_option maxRecDepth 100000 in
set_option maxHeartbeats 4000000 in
theorem kl_X5_hasData_7 (q : ZQ) (x1 : Int32) (M : Mem) (hx1 : 0 ≤ x1.toInt ∧ x1.toInt < 4) {K : Bool × Int32 → ZR} (hx : ∀ e : Bool × Int32, (0 : Int) ≤ e.2.toInt → Zg (zgM q) mX5_hasData 0 0 0 0 (K e) 42 [some (.inr 0), some (.inl x1), some (.inl (bI e.1)), some (.inl e.2)] [] M) :
    ∀ (n : Nat) (v2 : Bool) (v3 : Int32), (0 : Int) ≤ v3.toInt → ((((12 * x1) + 12) : Int32).toInt - (v3 : Int32).toInt).toNat < n → Zg (zgM q) mX5_hasData 0 0 0 0 (zlet (l_X5_hasData_7 x1 M n v2 v3) K) 7 [some (.inr 0), some (.inl x1), some (.inl (bI v2)), some (.inl v3)] [] M := by
  intro n
  induction n with
  | zero => intro v2 v3 hI hm; exact absurd hm (Nat.not_lt_zero _)
  | succ n ih =>
    intro v2 v3 hI hm
    show Zg _ _ _ _ _ _ (zlet (b_X5_hasData_7 x1 M (l_X5_hasData_7 x1 M n) v2 v3) K) _ _ _ _
    unfold b_X5_hasData_7
    refine zg_iload_n (x := v3) dX5_hasData_7 rfl ?_
    refine zg_bipush (v := 12) dX5_hasData_8 rfl ?_
    refine zg_iload_n (x := x1) dX5_hasData_10 rfl ?_
    refine zg_imul dX5_hasData_11 ?_
    refine zg_bipush (v := 12) dX5_hasData_12 rfl ?_
    refine zg_iadd dX5_hasData_14 ?_
    refine zg_icmpz (tgt := 42) dX5_hasData_15 rfl rfl (fun c15 => ?_) (fun c15 => ?_)
    · refine zg_st (pc' := 42) (L' := [some (.inr 0), some (.inl x1), some (.inl (bI v2)), some (.inl v3)]) (S' := []) (M' := M) rfl rfl rfl rfl ?_
      refine zg_drop (L' := [some (.inr 0), some (.inl x1), some (.inl (bI v2)), some (.inl v3)]) ⟨rfl, rfl, rfl, rfl, trivial⟩ ?_
      exact hx (v2, v3) hI
    · refine zg_st (pc' := 18) (L' := [some (.inr 0), some (.inl x1), some (.inl (bI v2)), some (.inl v3)]) (S' := []) (M' := M) rfl rfl rfl rfl ?_
      refine zg_iload_n (x := bI v2) dX5_hasData_18 rfl ?_
      refine zg_ifbn (tgt := 30) dX5_hasData_19 rfl (fun c19 => ?_) (fun c19 => ?_)
      · refine zg_st (pc' := 30) (L' := [some (.inr 0), some (.inl x1), some (.inl (bI v2)), some (.inl v3)]) (S' := []) (M' := M) rfl rfl rfl rfl ?_
        refine zg_iconst (v := 1) dX5_hasData_30 rfl ?_
        refine zg_goto (tgt := 35) dX5_hasData_31 rfl ?_
        refine zg_st (pc' := 35) (L' := [some (.inr 0), some (.inl x1), some (.inl (bI v2)), some (.inl v3)]) (S' := [.inl 1]) (M' := M) rfl rfl rfl rfl ?_
        refine zg_istore_n dX5_hasData_35 (by decide) ?_
        refine zg_st (pc' := 36) (L' := [some (.inr 0), some (.inl x1), some (.inl 1), some (.inl v3)]) (S' := []) (M' := M) rfl rfl rfl rfl ?_
        refine zg_iinc (v := (v3 + 1)) dX5_hasData_36 rfl (by decide) rfl ?_
        refine zg_st (pc' := 39) (L' := [some (.inr 0), some (.inl x1), some (.inl 1), some (.inl (v3 + 1))]) (S' := []) (M' := M) rfl rfl rfl rfl ?_
        refine zg_goto (tgt := 7) dX5_hasData_39 rfl ?_
        refine zg_st (pc' := 7) (L' := [some (.inr 0), some (.inl x1), some (.inl 1), some (.inl (v3 + 1))]) (S' := []) (M' := M) rfl rfl rfl rfl ?_
        refine zg_drop (L' := [some (.inr 0), some (.inl x1), some (.inl 1), some (.inl (v3 + 1))]) ⟨rfl, rfl, rfl, rfl, trivial⟩ ?_
        exact ih true (v3 + 1) (z_ge0 c15 hI) (z_up c15 hm)
      · refine zg_st (pc' := 22) (L' := [some (.inr 0), some (.inl x1), some (.inl (bI v2)), some (.inl v3)]) (S' := []) (M' := M) rfl rfl rfl rfl ?_
        refine zg_aload_n (x := 0) dX5_hasData_22 rfl ?_
        refine zg_iload_n (x := v3) dX5_hasData_23 rfl ?_
        refine zg_cV1 (As := [.inl v3]) (S := []) (v := (f_X5_now v3 M)) dX5_hasData_24 zk_X5_78 (k_X5_now q v3 M (z_hd c15 hx1 hI)) rfl rfl ⟨by decide, by decide⟩ ⟨by decide, by decide⟩ rfl (Nat.le_of_ble_eq_true rfl) ?_
        refine zg_st (pc' := 27) (L' := [some (.inr 0), some (.inl x1), some (.inl (bI v2)), some (.inl v3)]) (S' := [.inl (f_X5_now v3 M)]) (M' := M) rfl rfl rfl rfl ?_
        refine zg_ifz (tgt := 34) dX5_hasData_27 rfl rfl (fun c27 => ?_) (fun c27 => ?_)
        · refine zg_st (pc' := 34) (L' := [some (.inr 0), some (.inl x1), some (.inl (bI v2)), some (.inl v3)]) (S' := []) (M' := M) rfl rfl rfl rfl ?_
          refine zg_iconst (v := 0) dX5_hasData_34 rfl ?_
          refine zg_istore_n dX5_hasData_35 (by decide) ?_
          refine zg_st (pc' := 36) (L' := [some (.inr 0), some (.inl x1), some (.inl 0), some (.inl v3)]) (S' := []) (M' := M) rfl rfl rfl rfl ?_
          refine zg_iinc (v := (v3 + 1)) dX5_hasData_36 rfl (by decide) rfl ?_
          refine zg_st (pc' := 39) (L' := [some (.inr 0), some (.inl x1), some (.inl 0), some (.inl (v3 + 1))]) (S' := []) (M' := M) rfl rfl rfl rfl ?_
          refine zg_goto (tgt := 7) dX5_hasData_39 rfl ?_
          refine zg_st (pc' := 7) (L' := [some (.inr 0), some (.inl x1), some (.inl 0), some (.inl (v3 + 1))]) (S' := []) (M' := M) rfl rfl rfl rfl ?_
          refine zg_drop (L' := [some (.inr 0), some (.inl x1), some (.inl 0), some (.inl (v3 + 1))]) ⟨rfl, rfl, rfl, rfl, trivial⟩ ?_
          exact ih false (v3 + 1) (z_ge0 c15 hI) (z_up c15 hm)
        · refine zg_st (pc' := 30) (L' := [some (.inr 0), some (.inl x1), some (.inl (bI v2)), some (.inl v3)]) (S' := []) (M' := M) rfl rfl rfl rfl ?_
          refine zg_iconst (v := 1) dX5_hasData_30 rfl ?_
          refine zg_goto (tgt := 35) dX5_hasData_31 rfl ?_
          refine zg_st (pc' := 35) (L' := [some (.inr 0), some (.inl x1), some (.inl (bI v2)), some (.inl v3)]) (S' := [.inl 1]) (M' := M) rfl rfl rfl rfl ?_
          refine zg_istore_n dX5_hasData_35 (by decide) ?_
          refine zg_st (pc' := 36) (L' := [some (.inr 0), some (.inl x1), some (.inl 1), some (.inl v3)]) (S' := []) (M' := M) rfl rfl rfl rfl ?_
          refine zg_iinc (v := (v3 + 1)) dX5_hasData_36 rfl (by decide) rfl ?_
          refine zg_st (pc' := 39) (L' := [some (.inr 0), some (.inl x1), some (.inl 1), some (.inl (v3 + 1))]) (S' := []) (M' := M) rfl rfl rfl rfl ?_
          refine zg_goto (tgt := 7) dX5_hasData_39 rfl ?_
          refine zg_st (pc' := 7) (L' := [some (.inr 0), some (.inl x1), some (.inl 1), some (.inl (v3 + 1))]) (S' := []) (M' := M) rfl rfl rfl rfl ?_
          refine zg_drop (L' := [some (.inr 0), some (.inl x1), some (.inl 1), some (.inl (v3 + 1))]) ⟨rfl, rfl, rfl, rfl, trivial⟩ ?_
          exact ih true (v3 + 1) (z_ge0 c15 hI) (z_up c15 hm)
def f_X5_hasData (p1 : Int32) (M : Mem) : Bool :=
  zlet (l_X5_hasData_7 p1 M (((((12 * p1) + 12) : Int32).toInt - ((12 * p1) : Int32).toInt).toNat + 1) false (12 * p1)) (fun s1 =>
  s1.1)
set_option maxRecDepth 100000 in
set_option maxHeartbeats 4000000 in
theorem k_X5_hasData (q : ZQ) (p1 : Int32) (M : Mem) (hp : 0 ≤ p1.toInt ∧ p1.toInt < 4) : Zc (zgM q) mX5_hasData 0 0 [.inr 0, .inl p1] M (wB M (f_X5_hasData p1 M)) := by
  refine Zc.of (by decide) zi_X5_hasData.1 (Nat.le_of_ble_eq_true rfl) rfl ?_
  show Zg _ _ _ _ _ _ (zlet (f_X5_hasData p1 M) (wB M)) _ _ _ _
  unfold f_X5_hasData
  refine zg_iconst (v := 0) dX5_hasData_0 rfl ?_
  refine zg_istore_n dX5_hasData_1 (by decide) ?_
  refine zg_st (pc' := 2) (L' := [some (.inr 0), some (.inl p1), some (.inl 0), none]) (S' := []) (M' := M) rfl rfl rfl rfl ?_
  refine zg_bipush (v := 12) dX5_hasData_2 rfl ?_
  refine zg_iload_n (x := p1) dX5_hasData_4 rfl ?_
  refine zg_imul dX5_hasData_5 ?_
  refine zg_istore_n dX5_hasData_6 (by decide) ?_
  refine zg_st (pc' := 7) (L' := [some (.inr 0), some (.inl p1), some (.inl 0), some (.inl (12 * p1))]) (S' := []) (M' := M) rfl rfl rfl rfl ?_
  refine zg_asc ?_
  refine zg_drop (L' := [some (.inr 0), some (.inl p1), some (.inl 0), some (.inl (12 * p1))]) ⟨rfl, rfl, rfl, rfl, trivial⟩ ?_
  refine kl_X5_hasData_7 q p1 M hp (fun s1 hI_s1 => ?_) (((((12 * p1) + 12) : Int32).toInt - ((12 * p1) : Int32).toInt).toNat + 1) false (12 * p1) (by rw [z12' hp]; omega) (Nat.lt_succ_self _)
  try dsimp only [Sum.elim_inr]
  refine zg_st (pc' := 42) (L' := [some (.inr 0), some (.inl p1), some (.inl (bI s1.1)), some (.inl s1.2)]) (S' := []) (M' := M) rfl rfl rfl rfl ?_
  refine zg_iload_n (x := bI s1.1) dX5_hasData_42 rfl ?_
  exact zg_iret dX5_hasData_43 rfl (bI_nar _) ⟨by decide, by decide⟩ rfl
theorem dX5_isChanged_0 : decode cX5_isChanged 0 = .ok (.iconst 0, 1) := by decide +kernel
theorem dX5_isChanged_1 : decode cX5_isChanged 1 = .ok (.istore_n 2, 1) := by decide +kernel
theorem dX5_isChanged_2 : decode cX5_isChanged 2 = .ok (.bipush 12, 2) := by decide +kernel
theorem dX5_isChanged_4 : decode cX5_isChanged 4 = .ok (.iload_n 1, 1) := by decide +kernel
theorem dX5_isChanged_5 : decode cX5_isChanged 5 = .ok (.imul, 1) := by decide +kernel
theorem dX5_isChanged_6 : decode cX5_isChanged 6 = .ok (.istore_n 3, 1) := by decide +kernel
theorem dX5_isChanged_7 : decode cX5_isChanged 7 = .ok (.iload_n 3, 1) := by decide +kernel
theorem dX5_isChanged_8 : decode cX5_isChanged 8 = .ok (.bipush 12, 2) := by decide +kernel
theorem dX5_isChanged_10 : decode cX5_isChanged 10 = .ok (.iload_n 1, 1) := by decide +kernel
theorem dX5_isChanged_11 : decode cX5_isChanged 11 = .ok (.imul, 1) := by decide +kernel
theorem dX5_isChanged_12 : decode cX5_isChanged 12 = .ok (.bipush 12, 2) := by decide +kernel
theorem dX5_isChanged_14 : decode cX5_isChanged 14 = .ok (.iadd, 1) := by decide +kernel
theorem dX5_isChanged_15 : decode cX5_isChanged 15 = .ok (.if_icmp .ge 29, 3) := by decide +kernel
theorem dX5_isChanged_18 : decode cX5_isChanged 18 = .ok (.iload_n 2, 1) := by decide +kernel
theorem dX5_isChanged_19 : decode cX5_isChanged 19 = .ok (.ifCond .ne 13, 3) := by decide +kernel
theorem dX5_isChanged_22 : decode cX5_isChanged 22 = .ok (.aload_n 0, 1) := by decide +kernel
theorem dX5_isChanged_23 : decode cX5_isChanged 23 = .ok (.getfield 20, 3) := by decide +kernel
theorem dX5_isChanged_26 : decode cX5_isChanged 26 = .ok (.iload_n 3, 1) := by decide +kernel
theorem dX5_isChanged_27 : decode cX5_isChanged 27 = .ok (.iaload, 1) := by decide +kernel
theorem dX5_isChanged_28 : decode cX5_isChanged 28 = .ok (.iconst (-1), 1) := by decide +kernel
theorem dX5_isChanged_29 : decode cX5_isChanged 29 = .ok (.if_icmp .eq 7, 3) := by decide +kernel
theorem dX5_isChanged_32 : decode cX5_isChanged 32 = .ok (.iconst 1, 1) := by decide +kernel
theorem dX5_isChanged_33 : decode cX5_isChanged 33 = .ok (.goto 4, 3) := by decide +kernel
theorem dX5_isChanged_36 : decode cX5_isChanged 36 = .ok (.iconst 0, 1) := by decide +kernel
theorem dX5_isChanged_37 : decode cX5_isChanged 37 = .ok (.istore_n 2, 1) := by decide +kernel
theorem dX5_isChanged_38 : decode cX5_isChanged 38 = .ok (.iinc 3 1, 3) := by decide +kernel
theorem dX5_isChanged_41 : decode cX5_isChanged 41 = .ok (.goto (-34), 3) := by decide +kernel
theorem dX5_isChanged_44 : decode cX5_isChanged 44 = .ok (.iload_n 2, 1) := by decide +kernel
theorem dX5_isChanged_45 : decode cX5_isChanged 45 = .ok (.ireturn, 1) := by decide +kernel
def b_X5_isChanged_7 (x1 : Int32) (M : Mem) (rec : Bool → Int32 → Bool × Int32) (v2 : Bool) (v3 : Int32) : Bool × Int32 :=
  if ((12 * x1) + 12) ≤ v3 then (v2, v3)
  else if v2 then rec true (v3 + 1)
  else if (M 3 v3.toNatClampNeg) = (-1) then rec false (v3 + 1)
  else rec true (v3 + 1)
def l_X5_isChanged_7 (x1 : Int32) (M : Mem) : Nat → Bool → Int32 → Bool × Int32
  | 0, v2, v3 => (v2, v3)
  | n + 1, v2, v3 => b_X5_isChanged_7 x1 M (l_X5_isChanged_7 x1 M n) v2 v3
set_option maxRecDepth 100000 in
set_option maxHeartbeats 4000000 in
theorem kl_X5_isChanged_7 (q : ZQ) (x1 : Int32) (M : Mem) (hx1 : 0 ≤ x1.toInt ∧ x1.toInt < 4) {K : Bool × Int32 → ZR} (hx : ∀ e : Bool × Int32, (0 : Int) ≤ e.2.toInt → Zg (zgM q) mX5_isChanged 0 0 0 0 (K e) 44 [some (.inr 0), some (.inl x1), some (.inl (bI e.1)), some (.inl e.2)] [] M) :
    ∀ (n : Nat) (v2 : Bool) (v3 : Int32), (0 : Int) ≤ v3.toInt → ((((12 * x1) + 12) : Int32).toInt - (v3 : Int32).toInt).toNat < n → Zg (zgM q) mX5_isChanged 0 0 0 0 (zlet (l_X5_isChanged_7 x1 M n v2 v3) K) 7 [some (.inr 0), some (.inl x1), some (.inl (bI v2)), some (.inl v3)] [] M := by
  intro n
  induction n with
  | zero => intro v2 v3 hI hm; exact absurd hm (Nat.not_lt_zero _)
  | succ n ih =>
    intro v2 v3 hI hm
    show Zg _ _ _ _ _ _ (zlet (b_X5_isChanged_7 x1 M (l_X5_isChanged_7 x1 M n) v2 v3) K) _ _ _ _
    unfold b_X5_isChanged_7
    refine zg_iload_n (x := v3) dX5_isChanged_7 rfl ?_
    refine zg_bipush (v := 12) dX5_isChanged_8 rfl ?_
    refine zg_iload_n (x := x1) dX5_isChanged_10 rfl ?_
    refine zg_imul dX5_isChanged_11 ?_
    refine zg_bipush (v := 12) dX5_isChanged_12 rfl ?_
    refine zg_iadd dX5_isChanged_14 ?_
    refine zg_icmpz (tgt := 44) dX5_isChanged_15 rfl rfl (fun c15 => ?_) (fun c15 => ?_)
    · refine zg_st (pc' := 44) (L' := [some (.inr 0), some (.inl x1), some (.inl (bI v2)), some (.inl v3)]) (S' := []) (M' := M) rfl rfl rfl rfl ?_
      refine zg_drop (L' := [some (.inr 0), some (.inl x1), some (.inl (bI v2)), some (.inl v3)]) ⟨rfl, rfl, rfl, rfl, trivial⟩ ?_
      exact hx (v2, v3) hI
    · refine zg_st (pc' := 18) (L' := [some (.inr 0), some (.inl x1), some (.inl (bI v2)), some (.inl v3)]) (S' := []) (M' := M) rfl rfl rfl rfl ?_
      refine zg_iload_n (x := bI v2) dX5_isChanged_18 rfl ?_
      refine zg_ifbn (tgt := 32) dX5_isChanged_19 rfl (fun c19 => ?_) (fun c19 => ?_)
      · refine zg_st (pc' := 32) (L' := [some (.inr 0), some (.inl x1), some (.inl (bI v2)), some (.inl v3)]) (S' := []) (M' := M) rfl rfl rfl rfl ?_
        refine zg_iconst (v := 1) dX5_isChanged_32 rfl ?_
        refine zg_goto (tgt := 37) dX5_isChanged_33 rfl ?_
        refine zg_st (pc' := 37) (L' := [some (.inr 0), some (.inl x1), some (.inl (bI v2)), some (.inl v3)]) (S' := [.inl 1]) (M' := M) rfl rfl rfl rfl ?_
        refine zg_istore_n dX5_isChanged_37 (by decide) ?_
        refine zg_st (pc' := 38) (L' := [some (.inr 0), some (.inl x1), some (.inl 1), some (.inl v3)]) (S' := []) (M' := M) rfl rfl rfl rfl ?_
        refine zg_iinc (v := (v3 + 1)) dX5_isChanged_38 rfl (by decide) rfl ?_
        refine zg_st (pc' := 41) (L' := [some (.inr 0), some (.inl x1), some (.inl 1), some (.inl (v3 + 1))]) (S' := []) (M' := M) rfl rfl rfl rfl ?_
        refine zg_goto (tgt := 7) dX5_isChanged_41 rfl ?_
        refine zg_st (pc' := 7) (L' := [some (.inr 0), some (.inl x1), some (.inl 1), some (.inl (v3 + 1))]) (S' := []) (M' := M) rfl rfl rfl rfl ?_
        refine zg_drop (L' := [some (.inr 0), some (.inl x1), some (.inl 1), some (.inl (v3 + 1))]) ⟨rfl, rfl, rfl, rfl, trivial⟩ ?_
        exact ih true (v3 + 1) (z_ge0 c15 hI) (z_up c15 hm)
      · refine zg_st (pc' := 22) (L' := [some (.inr 0), some (.inl x1), some (.inl (bI v2)), some (.inl v3)]) (S' := []) (M' := M) rfl rfl rfl rfl ?_
        refine zg_aload_n (x := 0) dX5_isChanged_22 rfl ?_
        refine zg_getf (v := .inr 3) dX5_isChanged_23 zf_X5_20 rfl rfl rfl ?_
        refine zg_iload_n (x := v3) dX5_isChanged_26 rfl ?_
        refine zg_iald dX5_isChanged_27 rfl (z_hd c15 hx1 hI) ?_
        refine zg_iconst (v := (-1)) dX5_isChanged_28 rfl ?_
        refine zg_icmpz (tgt := 36) dX5_isChanged_29 rfl rfl (fun c29 => ?_) (fun c29 => ?_)
        · refine zg_st (pc' := 36) (L' := [some (.inr 0), some (.inl x1), some (.inl (bI v2)), some (.inl v3)]) (S' := []) (M' := M) rfl rfl rfl rfl ?_
          refine zg_iconst (v := 0) dX5_isChanged_36 rfl ?_
          refine zg_istore_n dX5_isChanged_37 (by decide) ?_
          refine zg_st (pc' := 38) (L' := [some (.inr 0), some (.inl x1), some (.inl 0), some (.inl v3)]) (S' := []) (M' := M) rfl rfl rfl rfl ?_
          refine zg_iinc (v := (v3 + 1)) dX5_isChanged_38 rfl (by decide) rfl ?_
          refine zg_st (pc' := 41) (L' := [some (.inr 0), some (.inl x1), some (.inl 0), some (.inl (v3 + 1))]) (S' := []) (M' := M) rfl rfl rfl rfl ?_
          refine zg_goto (tgt := 7) dX5_isChanged_41 rfl ?_
          refine zg_st (pc' := 7) (L' := [some (.inr 0), some (.inl x1), some (.inl 0), some (.inl (v3 + 1))]) (S' := []) (M' := M) rfl rfl rfl rfl ?_
          refine zg_drop (L' := [some (.inr 0), some (.inl x1), some (.inl 0), some (.inl (v3 + 1))]) ⟨rfl, rfl, rfl, rfl, trivial⟩ ?_
          exact ih false (v3 + 1) (z_ge0 c15 hI) (z_up c15 hm)
        · refine zg_st (pc' := 32) (L' := [some (.inr 0), some (.inl x1), some (.inl (bI v2)), some (.inl v3)]) (S' := []) (M' := M) rfl rfl rfl rfl ?_
          refine zg_iconst (v := 1) dX5_isChanged_32 rfl ?_
          refine zg_goto (tgt := 37) dX5_isChanged_33 rfl ?_
          refine zg_st (pc' := 37) (L' := [some (.inr 0), some (.inl x1), some (.inl (bI v2)), some (.inl v3)]) (S' := [.inl 1]) (M' := M) rfl rfl rfl rfl ?_
          refine zg_istore_n dX5_isChanged_37 (by decide) ?_
          refine zg_st (pc' := 38) (L' := [some (.inr 0), some (.inl x1), some (.inl 1), some (.inl v3)]) (S' := []) (M' := M) rfl rfl rfl rfl ?_
          refine zg_iinc (v := (v3 + 1)) dX5_isChanged_38 rfl (by decide) rfl ?_
          refine zg_st (pc' := 41) (L' := [some (.inr 0), some (.inl x1), some (.inl 1), some (.inl (v3 + 1))]) (S' := []) (M' := M) rfl rfl rfl rfl ?_
          refine zg_goto (tgt := 7) dX5_isChanged_41 rfl ?_
          refine zg_st (pc' := 7) (L' := [some (.inr 0), some (.inl x1), some (.inl 1), some (.inl (v3 + 1))]) (S' := []) (M' := M) rfl rfl rfl rfl ?_
          refine zg_drop (L' := [some (.inr 0), some (.inl x1), some (.inl 1), some (.inl (v3 + 1))]) ⟨rfl, rfl, rfl, rfl, trivial⟩ ?_
          exact ih true (v3 + 1) (z_ge0 c15 hI) (z_up c15 hm)
def f_X5_isChanged (p1 : Int32) (M : Mem) : Bool :=
  zlet (l_X5_isChanged_7 p1 M (((((12 * p1) + 12) : Int32).toInt - ((12 * p1) : Int32).toInt).toNat + 1) false (12 * p1)) (fun s1 =>
  s1.1)
set_option maxRecDepth 100000 in
set_option maxHeartbeats 4000000 in
theorem k_X5_isChanged (q : ZQ) (p1 : Int32) (M : Mem) (hp : 0 ≤ p1.toInt ∧ p1.toInt < 4) : Zc (zgM q) mX5_isChanged 0 0 [.inr 0, .inl p1] M (wB M (f_X5_isChanged p1 M)) := by
  refine Zc.of (by decide) zi_X5_isChanged.1 (Nat.le_of_ble_eq_true rfl) rfl ?_
  show Zg _ _ _ _ _ _ (zlet (f_X5_isChanged p1 M) (wB M)) _ _ _ _
  unfold f_X5_isChanged
  refine zg_iconst (v := 0) dX5_isChanged_0 rfl ?_
  refine zg_istore_n dX5_isChanged_1 (by decide) ?_
  refine zg_st (pc' := 2) (L' := [some (.inr 0), some (.inl p1), some (.inl 0), none]) (S' := []) (M' := M) rfl rfl rfl rfl ?_
  refine zg_bipush (v := 12) dX5_isChanged_2 rfl ?_
  refine zg_iload_n (x := p1) dX5_isChanged_4 rfl ?_
  refine zg_imul dX5_isChanged_5 ?_
  refine zg_istore_n dX5_isChanged_6 (by decide) ?_
  refine zg_st (pc' := 7) (L' := [some (.inr 0), some (.inl p1), some (.inl 0), some (.inl (12 * p1))]) (S' := []) (M' := M) rfl rfl rfl rfl ?_
  refine zg_asc ?_
  refine zg_drop (L' := [some (.inr 0), some (.inl p1), some (.inl 0), some (.inl (12 * p1))]) ⟨rfl, rfl, rfl, rfl, trivial⟩ ?_
  refine kl_X5_isChanged_7 q p1 M hp (fun s1 hI_s1 => ?_) (((((12 * p1) + 12) : Int32).toInt - ((12 * p1) : Int32).toInt).toNat + 1) false (12 * p1) (by rw [z12' hp]; omega) (Nat.lt_succ_self _)
  try dsimp only [Sum.elim_inr]
  refine zg_st (pc' := 44) (L' := [some (.inr 0), some (.inl p1), some (.inl (bI s1.1)), some (.inl s1.2)]) (S' := []) (M' := M) rfl rfl rfl rfl ?_
  refine zg_iload_n (x := bI s1.1) dX5_isChanged_44 rfl ?_
  exact zg_iret dX5_isChanged_45 rfl (bI_nar _) ⟨by decide, by decide⟩ rfl
theorem dX5_countFree_0 : decode cX5_countFree 0 = .ok (.iconst 0, 1) := by decide +kernel
theorem dX5_countFree_1 : decode cX5_countFree 1 = .ok (.istore_n 3, 1) := by decide +kernel
theorem dX5_countFree_2 : decode cX5_countFree 2 = .ok (.bipush 40, 2) := by decide +kernel
theorem dX5_countFree_4 : decode cX5_countFree 4 = .ok (.iload_n 1, 1) := by decide +kernel
theorem dX5_countFree_5 : decode cX5_countFree 5 = .ok (.imul, 1) := by decide +kernel
theorem dX5_countFree_6 : decode cX5_countFree 6 = .ok (.istore 4, 2) := by decide +kernel
theorem dX5_countFree_8 : decode cX5_countFree 8 = .ok (.iload 4, 2) := by decide +kernel
theorem dX5_countFree_10 : decode cX5_countFree 10 = .ok (.bipush 40, 2) := by decide +kernel
theorem dX5_countFree_12 : decode cX5_countFree 12 = .ok (.iload_n 1, 1) := by decide +kernel
theorem dX5_countFree_13 : decode cX5_countFree 13 = .ok (.imul, 1) := by decide +kernel
theorem dX5_countFree_14 : decode cX5_countFree 14 = .ok (.bipush 40, 2) := by decide +kernel
theorem dX5_countFree_16 : decode cX5_countFree 16 = .ok (.iadd, 1) := by decide +kernel
theorem dX5_countFree_17 : decode cX5_countFree 17 = .ok (.if_icmp .ge 24, 3) := by decide +kernel
theorem dX5_countFree_20 : decode cX5_countFree 20 = .ok (.iload_n 3, 1) := by decide +kernel
theorem dX5_countFree_21 : decode cX5_countFree 21 = .ok (.aload_n 2, 1) := by decide +kernel
theorem dX5_countFree_22 : decode cX5_countFree 22 = .ok (.iload 4, 2) := by decide +kernel
theorem dX5_countFree_24 : decode cX5_countFree 24 = .ok (.baload, 1) := by decide +kernel
theorem dX5_countFree_25 : decode cX5_countFree 25 = .ok (.ifCond .eq 7, 3) := by decide +kernel
theorem dX5_countFree_28 : decode cX5_countFree 28 = .ok (.iconst 0, 1) := by decide +kernel
theorem dX5_countFree_29 : decode cX5_countFree 29 = .ok (.goto 4, 3) := by decide +kernel
theorem dX5_countFree_32 : decode cX5_countFree 32 = .ok (.iconst 1, 1) := by decide +kernel
theorem dX5_countFree_33 : decode cX5_countFree 33 = .ok (.iadd, 1) := by decide +kernel
theorem dX5_countFree_34 : decode cX5_countFree 34 = .ok (.istore_n 3, 1) := by decide +kernel
theorem dX5_countFree_35 : decode cX5_countFree 35 = .ok (.iinc 4 1, 3) := by decide +kernel
theorem dX5_countFree_38 : decode cX5_countFree 38 = .ok (.goto (-30), 3) := by decide +kernel
theorem dX5_countFree_41 : decode cX5_countFree 41 = .ok (.iload_n 3, 1) := by decide +kernel
theorem dX5_countFree_42 : decode cX5_countFree 42 = .ok (.ireturn, 1) := by decide +kernel
def b_X5_countFree_12_8 (x1 : Int32) (M : Mem) (rec : Int32 → Int32 → Int32 × Int32) (v3 : Int32) (v4 : Int32) : Int32 × Int32 :=
  if ((40 * x1) + 40) ≤ v4 then (v3, v4)
  else if (M 12 v4.toNatClampNeg) = 0 then rec (v3 + 1) (v4 + 1)
  else rec (v3 + 0) (v4 + 1)
def l_X5_countFree_12_8 (x1 : Int32) (M : Mem) : Nat → Int32 → Int32 → Int32 × Int32
  | 0, v3, v4 => (v3, v4)
  | n + 1, v3, v4 => b_X5_countFree_12_8 x1 M (l_X5_countFree_12_8 x1 M n) v3 v4
set_option maxRecDepth 100000 in
set_option maxHeartbeats 4000000 in
theorem kl_X5_countFree_12_8 (q : ZQ) (x1 : Int32) (M : Mem) (hx1 : 0 ≤ x1.toInt ∧ x1.toInt < 3) {K : Int32 × Int32 → ZR} (hx : ∀ e : Int32 × Int32, (0 : Int) ≤ e.2.toInt → Zg (zgM q) mX5_countFree 0 0 0 0 (K e) 41 [some (.inr 0), some (.inl x1), some (.inr 12), some (.inl e.1), some (.inl e.2)] [] M) :
    ∀ (n : Nat) (v3 : Int32) (v4 : Int32), (0 : Int) ≤ v4.toInt → ((((40 * x1) + 40) : Int32).toInt - (v4 : Int32).toInt).toNat < n → Zg (zgM q) mX5_countFree 0 0 0 0 (zlet (l_X5_countFree_12_8 x1 M n v3 v4) K) 8 [some (.inr 0), some (.inl x1), some (.inr 12), some (.inl v3), some (.inl v4)] [] M := by
  intro n
  induction n with
  | zero => intro v3 v4 hI hm; exact absurd hm (Nat.not_lt_zero _)
  | succ n ih =>
    intro v3 v4 hI hm
    show Zg _ _ _ _ _ _ (zlet (b_X5_countFree_12_8 x1 M (l_X5_countFree_12_8 x1 M n) v3 v4) K) _ _ _ _
    unfold b_X5_countFree_12_8
    refine zg_iload (x := v4) dX5_countFree_8 rfl ?_
    refine zg_bipush (v := 40) dX5_countFree_10 rfl ?_
    refine zg_iload_n (x := x1) dX5_countFree_12 rfl ?_
    refine zg_imul dX5_countFree_13 ?_
    refine zg_bipush (v := 40) dX5_countFree_14 rfl ?_
    refine zg_iadd dX5_countFree_16 ?_
    refine zg_icmpz (tgt := 41) dX5_countFree_17 rfl rfl (fun c17 => ?_) (fun c17 => ?_)
    · refine zg_st (pc' := 41) (L' := [some (.inr 0), some (.inl x1), some (.inr 12), some (.inl v3), some (.inl v4)]) (S' := []) (M' := M) rfl rfl rfl rfl ?_
      refine zg_drop (L' := [some (.inr 0), some (.inl x1), some (.inr 12), some (.inl v3), some (.inl v4)]) ⟨rfl, rfl, rfl, rfl, rfl, trivial⟩ ?_
      exact hx (v3, v4) hI
    · refine zg_st (pc' := 20) (L' := [some (.inr 0), some (.inl x1), some (.inr 12), some (.inl v3), some (.inl v4)]) (S' := []) (M' := M) rfl rfl rfl rfl ?_
      refine zg_iload_n (x := v3) dX5_countFree_20 rfl ?_
      refine zg_aload_n (x := 12) dX5_countFree_21 rfl ?_
      refine zg_iload (x := v4) dX5_countFree_22 rfl ?_
      refine zg_zald dX5_countFree_24 rfl (z_cf c17 hx1 hI) ?_
      refine zg_ifz (tgt := 32) dX5_countFree_25 rfl rfl (fun c25 => ?_) (fun c25 => ?_)
      · refine zg_st (pc' := 32) (L' := [some (.inr 0), some (.inl x1), some (.inr 12), some (.inl v3), some (.inl v4)]) (S' := [.inl v3]) (M' := M) rfl rfl rfl rfl ?_
        refine zg_iconst (v := 1) dX5_countFree_32 rfl ?_
        refine zg_iadd dX5_countFree_33 ?_
        refine zg_istore_n dX5_countFree_34 (by decide) ?_
        refine zg_st (pc' := 35) (L' := [some (.inr 0), some (.inl x1), some (.inr 12), some (.inl (v3 + 1)), some (.inl v4)]) (S' := []) (M' := M) rfl rfl rfl rfl ?_
        refine zg_iinc (v := (v4 + 1)) dX5_countFree_35 rfl (by decide) rfl ?_
        refine zg_st (pc' := 38) (L' := [some (.inr 0), some (.inl x1), some (.inr 12), some (.inl (v3 + 1)), some (.inl (v4 + 1))]) (S' := []) (M' := M) rfl rfl rfl rfl ?_
        refine zg_goto (tgt := 8) dX5_countFree_38 rfl ?_
        refine zg_st (pc' := 8) (L' := [some (.inr 0), some (.inl x1), some (.inr 12), some (.inl (v3 + 1)), some (.inl (v4 + 1))]) (S' := []) (M' := M) rfl rfl rfl rfl ?_
        refine zg_drop (L' := [some (.inr 0), some (.inl x1), some (.inr 12), some (.inl (v3 + 1)), some (.inl (v4 + 1))]) ⟨rfl, rfl, rfl, rfl, rfl, trivial⟩ ?_
        exact ih (v3 + 1) (v4 + 1) (z_ge0 c17 hI) (z_up c17 hm)
      · refine zg_st (pc' := 28) (L' := [some (.inr 0), some (.inl x1), some (.inr 12), some (.inl v3), some (.inl v4)]) (S' := [.inl v3]) (M' := M) rfl rfl rfl rfl ?_
        refine zg_iconst (v := 0) dX5_countFree_28 rfl ?_
        refine zg_goto (tgt := 33) dX5_countFree_29 rfl ?_
        refine zg_st (pc' := 33) (L' := [some (.inr 0), some (.inl x1), some (.inr 12), some (.inl v3), some (.inl v4)]) (S' := [.inl 0, .inl v3]) (M' := M) rfl rfl rfl rfl ?_
        refine zg_iadd dX5_countFree_33 ?_
        refine zg_istore_n dX5_countFree_34 (by decide) ?_
        refine zg_st (pc' := 35) (L' := [some (.inr 0), some (.inl x1), some (.inr 12), some (.inl (v3 + 0)), some (.inl v4)]) (S' := []) (M' := M) rfl rfl rfl rfl ?_
        refine zg_iinc (v := (v4 + 1)) dX5_countFree_35 rfl (by decide) rfl ?_
        refine zg_st (pc' := 38) (L' := [some (.inr 0), some (.inl x1), some (.inr 12), some (.inl (v3 + 0)), some (.inl (v4 + 1))]) (S' := []) (M' := M) rfl rfl rfl rfl ?_
        refine zg_goto (tgt := 8) dX5_countFree_38 rfl ?_
        refine zg_st (pc' := 8) (L' := [some (.inr 0), some (.inl x1), some (.inr 12), some (.inl (v3 + 0)), some (.inl (v4 + 1))]) (S' := []) (M' := M) rfl rfl rfl rfl ?_
        refine zg_drop (L' := [some (.inr 0), some (.inl x1), some (.inr 12), some (.inl (v3 + 0)), some (.inl (v4 + 1))]) ⟨rfl, rfl, rfl, rfl, rfl, trivial⟩ ?_
        exact ih (v3 + 0) (v4 + 1) (z_ge0 c17 hI) (z_up c17 hm)
def f_X5_countFree_12 (p1 : Int32) (M : Mem) : Int32 :=
  zlet (l_X5_countFree_12_8 p1 M (((((40 * p1) + 40) : Int32).toInt - ((40 * p1) : Int32).toInt).toNat + 1) 0 (40 * p1)) (fun s1 =>
  s1.1)
set_option maxRecDepth 100000 in
set_option maxHeartbeats 4000000 in
theorem k_X5_countFree_12 (q : ZQ) (p1 : Int32) (M : Mem) (hp : 0 ≤ p1.toInt ∧ p1.toInt < 3) : Zc (zgM q) mX5_countFree 0 0 [.inr 0, .inl p1, .inr 12] M (wI M (f_X5_countFree_12 p1 M)) := by
  refine Zc.of (by decide) zi_X5_countFree.1 (Nat.le_of_ble_eq_true rfl) rfl ?_
  show Zg _ _ _ _ _ _ (zlet (f_X5_countFree_12 p1 M) (wI M)) _ _ _ _
  unfold f_X5_countFree_12
  refine zg_iconst (v := 0) dX5_countFree_0 rfl ?_
  refine zg_istore_n dX5_countFree_1 (by decide) ?_
  refine zg_st (pc' := 2) (L' := [some (.inr 0), some (.inl p1), some (.inr 12), some (.inl 0), none]) (S' := []) (M' := M) rfl rfl rfl rfl ?_
  refine zg_bipush (v := 40) dX5_countFree_2 rfl ?_
  refine zg_iload_n (x := p1) dX5_countFree_4 rfl ?_
  refine zg_imul dX5_countFree_5 ?_
  refine zg_istore dX5_countFree_6 (by decide) ?_
  refine zg_st (pc' := 8) (L' := [some (.inr 0), some (.inl p1), some (.inr 12), some (.inl 0), some (.inl (40 * p1))]) (S' := []) (M' := M) rfl rfl rfl rfl ?_
  refine zg_asc ?_
  refine zg_drop (L' := [some (.inr 0), some (.inl p1), some (.inr 12), some (.inl 0), some (.inl (40 * p1))]) ⟨rfl, rfl, rfl, rfl, rfl, trivial⟩ ?_
  refine kl_X5_countFree_12_8 q p1 M hp (fun s1 hI_s1 => ?_) (((((40 * p1) + 40) : Int32).toInt - ((40 * p1) : Int32).toInt).toNat + 1) 0 (40 * p1) (by rw [z40' hp]; omega) (Nat.lt_succ_self _)
  try dsimp only [Sum.elim_inr]
  refine zg_st (pc' := 41) (L' := [some (.inr 0), some (.inl p1), some (.inr 12), some (.inl s1.1), some (.inl s1.2)]) (S' := []) (M' := M) rfl rfl rfl rfl ?_
  refine zg_iload_n (x := s1.1) dX5_countFree_41 rfl ?_
  exact zg_iret dX5_countFree_42 rfl rfl ⟨by decide, by decide⟩ rfl
theorem dX5_take_0 : decode cX5_take 0 = .ok (.iconst (-1), 1) := by decide +kernel
theorem dX5_take_1 : decode cX5_take 1 = .ok (.istore_n 2, 1) := by decide +kernel
theorem dX5_take_2 : decode cX5_take 2 = .ok (.iconst 0, 1) := by decide +kernel
theorem dX5_take_3 : decode cX5_take 3 = .ok (.istore_n 3, 1) := by decide +kernel
theorem dX5_take_4 : decode cX5_take 4 = .ok (.iload_n 3, 1) := by decide +kernel
theorem dX5_take_5 : decode cX5_take 5 = .ok (.iconst 3, 1) := by decide +kernel
theorem dX5_take_6 : decode cX5_take 6 = .ok (.if_icmp .ge 42, 3) := by decide +kernel
theorem dX5_take_9 : decode cX5_take 9 = .ok (.iload_n 3, 1) := by decide +kernel
theorem dX5_take_10 : decode cX5_take 10 = .ok (.iload_n 1, 1) := by decide +kernel
theorem dX5_take_11 : decode cX5_take 11 = .ok (.if_icmp .eq 31, 3) := by decide +kernel
theorem dX5_take_14 : decode cX5_take 14 = .ok (.iload_n 2, 1) := by decide +kernel
theorem dX5_take_15 : decode cX5_take 15 = .ok (.iconst (-1), 1) := by decide +kernel
theorem dX5_take_16 : decode cX5_take 16 = .ok (.if_icmp .eq 24, 3) := by decide +kernel
theorem dX5_take_19 : decode cX5_take 19 = .ok (.aload_n 0, 1) := by decide +kernel
theorem dX5_take_20 : decode cX5_take 20 = .ok (.iload_n 3, 1) := by decide +kernel
theorem dX5_take_21 : decode cX5_take 21 = .ok (.aload_n 0, 1) := by decide +kernel
theorem dX5_take_22 : decode cX5_take 22 = .ok (.getfield 48, 3) := by decide +kernel
theorem dX5_take_25 : decode cX5_take 25 = .ok (.invokevirtual 108, 3) := by decide +kernel
theorem dX5_take_28 : decode cX5_take 28 = .ok (.aload_n 0, 1) := by decide +kernel
theorem dX5_take_29 : decode cX5_take 29 = .ok (.iload_n 2, 1) := by decide +kernel
theorem dX5_take_30 : decode cX5_take 30 = .ok (.aload_n 0, 1) := by decide +kernel
theorem dX5_take_31 : decode cX5_take 31 = .ok (.getfield 48, 3) := by decide +kernel
theorem dX5_take_34 : decode cX5_take 34 = .ok (.invokevirtual 108, 3) := by decide +kernel
theorem dX5_take_37 : decode cX5_take 37 = .ok (.if_icmp .le 5, 3) := by decide +kernel
theorem dX5_take_40 : decode cX5_take 40 = .ok (.iload_n 3, 1) := by decide +kernel
theorem dX5_take_41 : decode cX5_take 41 = .ok (.istore_n 2, 1) := by decide +kernel
theorem dX5_take_42 : decode cX5_take 42 = .ok (.iinc 3 1, 3) := by decide +kernel
theorem dX5_take_45 : decode cX5_take 45 = .ok (.goto (-41), 3) := by decide +kernel
theorem dX5_take_48 : decode cX5_take 48 = .ok (.iconst (-1), 1) := by decide +kernel
theorem dX5_take_49 : decode cX5_take 49 = .ok (.istore_n 3, 1) := by decide +kernel
theorem dX5_take_50 : decode cX5_take 50 = .ok (.bipush 40, 2) := by decide +kernel
theorem dX5_take_52 : decode cX5_take 52 = .ok (.iload_n 2, 1) := by decide +kernel
theorem dX5_take_53 : decode cX5_take 53 = .ok (.imul, 1) := by decide +kernel
theorem dX5_take_54 : decode cX5_take 54 = .ok (.istore 4, 2) := by decide +kernel
theorem dX5_take_56 : decode cX5_take 56 = .ok (.iload 4, 2) := by decide +kernel
theorem dX5_take_58 : decode cX5_take 58 = .ok (.bipush 40, 2) := by decide +kernel
theorem dX5_take_60 : decode cX5_take 60 = .ok (.iload_n 2, 1) := by decide +kernel
theorem dX5_take_61 : decode cX5_take 61 = .ok (.imul, 1) := by decide +kernel
theorem dX5_take_62 : decode cX5_take 62 = .ok (.bipush 40, 2) := by decide +kernel
theorem dX5_take_64 : decode cX5_take 64 = .ok (.iadd, 1) := by decide +kernel
theorem dX5_take_65 : decode cX5_take 65 = .ok (.if_icmp .ge 31, 3) := by decide +kernel
theorem dX5_take_68 : decode cX5_take 68 = .ok (.iload_n 3, 1) := by decide +kernel
theorem dX5_take_69 : decode cX5_take 69 = .ok (.iconst (-1), 1) := by decide +kernel
theorem dX5_take_70 : decode cX5_take 70 = .ok (.if_icmp .ne 26, 3) := by decide +kernel
theorem dX5_take_73 : decode cX5_take 73 = .ok (.aload_n 0, 1) := by decide +kernel
theorem dX5_take_74 : decode cX5_take 74 = .ok (.getfield 48, 3) := by decide +kernel
theorem dX5_take_77 : decode cX5_take 77 = .ok (.iload 4, 2) := by decide +kernel
theorem dX5_take_79 : decode cX5_take 79 = .ok (.baload, 1) := by decide +kernel
theorem dX5_take_80 : decode cX5_take 80 = .ok (.ifCond .eq 7, 3) := by decide +kernel
theorem dX5_take_83 : decode cX5_take 83 = .ok (.iconst (-1), 1) := by decide +kernel
theorem dX5_take_84 : decode cX5_take 84 = .ok (.goto 5, 3) := by decide +kernel
theorem dX5_take_87 : decode cX5_take 87 = .ok (.iload 4, 2) := by decide +kernel
theorem dX5_take_89 : decode cX5_take 89 = .ok (.istore_n 3, 1) := by decide +kernel
theorem dX5_take_90 : decode cX5_take 90 = .ok (.iinc 4 1, 3) := by decide +kernel
theorem dX5_take_93 : decode cX5_take 93 = .ok (.goto (-37), 3) := by decide +kernel
theorem dX5_take_96 : decode cX5_take 96 = .ok (.iload_n 3, 1) := by decide +kernel
theorem dX5_take_97 : decode cX5_take 97 = .ok (.iconst (-1), 1) := by decide +kernel
theorem dX5_take_98 : decode cX5_take 98 = .ok (.if_icmp .eq 20, 3) := by decide +kernel
theorem dX5_take_101 : decode cX5_take 101 = .ok (.aload_n 0, 1) := by decide +kernel
theorem dX5_take_102 : decode cX5_take 102 = .ok (.getfield 48, 3) := by decide +kernel
theorem dX5_take_105 : decode cX5_take 105 = .ok (.iload_n 3, 1) := by decide +kernel
theorem dX5_take_106 : decode cX5_take 106 = .ok (.iconst 1, 1) := by decide +kernel
theorem dX5_take_107 : decode cX5_take 107 = .ok (.bastore, 1) := by decide +kernel
theorem dX5_take_108 : decode cX5_take 108 = .ok (.aload_n 0, 1) := by decide +kernel
theorem dX5_take_109 : decode cX5_take 109 = .ok (.dup, 1) := by decide +kernel
theorem dX5_take_110 : decode cX5_take 110 = .ok (.getfield 112, 3) := by decide +kernel
theorem dX5_take_113 : decode cX5_take 113 = .ok (.iconst 1, 1) := by decide +kernel
theorem dX5_take_114 : decode cX5_take 114 = .ok (.iadd, 1) := by decide +kernel
theorem dX5_take_115 : decode cX5_take 115 = .ok (.putfield 112, 3) := by decide +kernel
theorem dX5_take_118 : decode cX5_take 118 = .ok (.iload_n 3, 1) := by decide +kernel
theorem dX5_take_119 : decode cX5_take 119 = .ok (.ireturn, 1) := by decide +kernel
def b_X5_take_4 (x1 : Int32) (M : Mem) (rec : Int32 → Int32 → Int32 × Int32) (v2 : Int32) (v3 : Int32) : Int32 × Int32 :=
  if 3 ≤ v3 then (v2, v3)
  else if v3 = x1 then rec v2 (v3 + 1)
  else if v2 = (-1) then rec v3 (v3 + 1)
  else if (f_X5_countFree_12 v3 M) ≤ (f_X5_countFree_12 v2 M) then rec v2 (v3 + 1)
  else rec v3 (v3 + 1)
def l_X5_take_4 (x1 : Int32) (M : Mem) : Nat → Int32 → Int32 → Int32 × Int32
  | 0, v2, v3 => (v2, v3)
  | n + 1, v2, v3 => b_X5_take_4 x1 M (l_X5_take_4 x1 M n) v2 v3
set_option maxRecDepth 100000 in
set_option maxHeartbeats 4000000 in
theorem kl_X5_take_4 (q : ZQ) (x1 : Int32) (M : Mem) {K : Int32 × Int32 → ZR} (hx : ∀ e : Int32 × Int32, (0 ≤ e.1.toInt ∧ e.1.toInt < 3) → Zg (zgM q) mX5_take 0 0 0 0 (K e) 48 [some (.inr 0), some (.inl x1), some (.inl e.1), some (.inl e.2), none] [] M) :
    ∀ (n : Nat) (v2 : Int32) (v3 : Int32), zTk x1 v2 v3 → ((3 : Int32).toInt - (v3 : Int32).toInt).toNat < n → Zg (zgM q) mX5_take 0 0 0 0 (zlet (l_X5_take_4 x1 M n v2 v3) K) 4 [some (.inr 0), some (.inl x1), some (.inl v2), some (.inl v3), none] [] M := by
  intro n
  induction n with
  | zero => intro v2 v3 hI hm; exact absurd hm (Nat.not_lt_zero _)
  | succ n ih =>
    intro v2 v3 hI hm
    show Zg _ _ _ _ _ _ (zlet (b_X5_take_4 x1 M (l_X5_take_4 x1 M n) v2 v3) K) _ _ _ _
    unfold b_X5_take_4
    refine zg_iload_n (x := v3) dX5_take_4 rfl ?_
    refine zg_iconst (v := 3) dX5_take_5 rfl ?_
    refine zg_icmpz (tgt := 48) dX5_take_6 rfl rfl (fun c6 => ?_) (fun c6 => ?_)
    · refine zg_st (pc' := 48) (L' := [some (.inr 0), some (.inl x1), some (.inl v2), some (.inl v3), none]) (S' := []) (M' := M) rfl rfl rfl rfl ?_
      refine zg_drop (L' := [some (.inr 0), some (.inl x1), some (.inl v2), some (.inl v3), none]) ⟨rfl, rfl, rfl, rfl, trivial⟩ ?_
      exact hx (v2, v3) (by clear ih hx; simp only [zTk, ← Int32.toInt_inj, Int32.le_iff_toInt_le, Int32.lt_iff_toInt_lt, Int32.reduceToInt, z_neg1] at *; omega)
    · refine zg_st (pc' := 9) (L' := [some (.inr 0), some (.inl x1), some (.inl v2), some (.inl v3), none]) (S' := []) (M' := M) rfl rfl rfl rfl ?_
      refine zg_iload_n (x := v3) dX5_take_9 rfl ?_
      refine zg_iload_n (x := x1) dX5_take_10 rfl ?_
      refine zg_icmpz (tgt := 42) dX5_take_11 rfl rfl (fun c11 => ?_) (fun c11 => ?_)
      · refine zg_st (pc' := 42) (L' := [some (.inr 0), some (.inl x1), some (.inl v2), some (.inl v3), none]) (S' := []) (M' := M) rfl rfl rfl rfl ?_
        refine zg_iinc (v := (v3 + 1)) dX5_take_42 rfl (by decide) rfl ?_
        refine zg_st (pc' := 45) (L' := [some (.inr 0), some (.inl x1), some (.inl v2), some (.inl (v3 + 1)), none]) (S' := []) (M' := M) rfl rfl rfl rfl ?_
        refine zg_goto (tgt := 4) dX5_take_45 rfl ?_
        refine zg_st (pc' := 4) (L' := [some (.inr 0), some (.inl x1), some (.inl v2), some (.inl (v3 + 1)), none]) (S' := []) (M' := M) rfl rfl rfl rfl ?_
        refine zg_drop (L' := [some (.inr 0), some (.inl x1), some (.inl v2), some (.inl (v3 + 1)), none]) ⟨rfl, rfl, rfl, rfl, trivial⟩ ?_
        exact ih v2 (v3 + 1) (by clear ih hx; have e := z_p1 c6; simp only [zTk, ← Int32.toInt_inj, Int32.le_iff_toInt_le, Int32.lt_iff_toInt_lt, Int32.reduceToInt, z_neg1] at *; omega) (z_up c6 hm)
      · refine zg_st (pc' := 14) (L' := [some (.inr 0), some (.inl x1), some (.inl v2), some (.inl v3), none]) (S' := []) (M' := M) rfl rfl rfl rfl ?_
        refine zg_iload_n (x := v2) dX5_take_14 rfl ?_
        refine zg_iconst (v := (-1)) dX5_take_15 rfl ?_
        refine zg_icmpz (tgt := 40) dX5_take_16 rfl rfl (fun c16 => ?_) (fun c16 => ?_)
        · refine zg_st (pc' := 40) (L' := [some (.inr 0), some (.inl x1), some (.inl v2), some (.inl v3), none]) (S' := []) (M' := M) rfl rfl rfl rfl ?_
          refine zg_iload_n (x := v3) dX5_take_40 rfl ?_
          refine zg_istore_n dX5_take_41 (by decide) ?_
          refine zg_st (pc' := 42) (L' := [some (.inr 0), some (.inl x1), some (.inl v3), some (.inl v3), none]) (S' := []) (M' := M) rfl rfl rfl rfl ?_
          refine zg_iinc (v := (v3 + 1)) dX5_take_42 rfl (by decide) rfl ?_
          refine zg_st (pc' := 45) (L' := [some (.inr 0), some (.inl x1), some (.inl v3), some (.inl (v3 + 1)), none]) (S' := []) (M' := M) rfl rfl rfl rfl ?_
          refine zg_goto (tgt := 4) dX5_take_45 rfl ?_
          refine zg_st (pc' := 4) (L' := [some (.inr 0), some (.inl x1), some (.inl v3), some (.inl (v3 + 1)), none]) (S' := []) (M' := M) rfl rfl rfl rfl ?_
          refine zg_drop (L' := [some (.inr 0), some (.inl x1), some (.inl v3), some (.inl (v3 + 1)), none]) ⟨rfl, rfl, rfl, rfl, trivial⟩ ?_
          exact ih v3 (v3 + 1) (by clear ih hx; have e := z_p1 c6; simp only [zTk, ← Int32.toInt_inj, Int32.le_iff_toInt_le, Int32.lt_iff_toInt_lt, Int32.reduceToInt, z_neg1] at *; omega) (z_up c6 hm)
        · refine zg_st (pc' := 19) (L' := [some (.inr 0), some (.inl x1), some (.inl v2), some (.inl v3), none]) (S' := []) (M' := M) rfl rfl rfl rfl ?_
          refine zg_aload_n (x := 0) dX5_take_19 rfl ?_
          refine zg_iload_n (x := v3) dX5_take_20 rfl ?_
          refine zg_aload_n (x := 0) dX5_take_21 rfl ?_
          refine zg_getf (v := .inr 12) dX5_take_22 zf_X5_48 rfl rfl rfl ?_
          refine zg_cV1 (As := [.inl v3, .inr 12]) (S := []) (v := (f_X5_countFree_12 v3 M)) dX5_take_25 zk_X5_108 (k_X5_countFree_12 q v3 M (by clear ih hx; simp only [zTk, ← Int32.toInt_inj, Int32.le_iff_toInt_le, Int32.lt_iff_toInt_lt, Int32.reduceToInt, z_neg1] at *; omega)) rfl rfl ⟨by decide, by decide⟩ ⟨by decide, by decide⟩ rfl (Nat.le_of_ble_eq_true rfl) ?_
          refine zg_st (pc' := 28) (L' := [some (.inr 0), some (.inl x1), some (.inl v2), some (.inl v3), none]) (S' := [.inl (f_X5_countFree_12 v3 M)]) (M' := M) rfl rfl rfl rfl ?_
          refine zg_aload_n (x := 0) dX5_take_28 rfl ?_
          refine zg_iload_n (x := v2) dX5_take_29 rfl ?_
          refine zg_aload_n (x := 0) dX5_take_30 rfl ?_
          refine zg_getf (v := .inr 12) dX5_take_31 zf_X5_48 rfl rfl rfl ?_
          refine zg_cV1 (As := [.inl v2, .inr 12]) (S := [.inl (f_X5_countFree_12 v3 M)]) (v := (f_X5_countFree_12 v2 M)) dX5_take_34 zk_X5_108 (k_X5_countFree_12 q v2 M (by clear ih hx; simp only [zTk, ← Int32.toInt_inj, Int32.le_iff_toInt_le, Int32.lt_iff_toInt_lt, Int32.reduceToInt, z_neg1] at *; omega)) rfl rfl ⟨by decide, by decide⟩ ⟨by decide, by decide⟩ rfl (Nat.le_of_ble_eq_true rfl) ?_
          refine zg_st (pc' := 37) (L' := [some (.inr 0), some (.inl x1), some (.inl v2), some (.inl v3), none]) (S' := [.inl (f_X5_countFree_12 v2 M), .inl (f_X5_countFree_12 v3 M)]) (M' := M) rfl rfl rfl rfl ?_
          refine zg_icmpz (tgt := 42) dX5_take_37 rfl rfl (fun c37 => ?_) (fun c37 => ?_)
          · refine zg_st (pc' := 42) (L' := [some (.inr 0), some (.inl x1), some (.inl v2), some (.inl v3), none]) (S' := []) (M' := M) rfl rfl rfl rfl ?_
            refine zg_iinc (v := (v3 + 1)) dX5_take_42 rfl (by decide) rfl ?_
            refine zg_st (pc' := 45) (L' := [some (.inr 0), some (.inl x1), some (.inl v2), some (.inl (v3 + 1)), none]) (S' := []) (M' := M) rfl rfl rfl rfl ?_
            refine zg_goto (tgt := 4) dX5_take_45 rfl ?_
            refine zg_st (pc' := 4) (L' := [some (.inr 0), some (.inl x1), some (.inl v2), some (.inl (v3 + 1)), none]) (S' := []) (M' := M) rfl rfl rfl rfl ?_
            refine zg_drop (L' := [some (.inr 0), some (.inl x1), some (.inl v2), some (.inl (v3 + 1)), none]) ⟨rfl, rfl, rfl, rfl, trivial⟩ ?_
            exact ih v2 (v3 + 1) (by clear ih hx; have e := z_p1 c6; simp only [zTk, ← Int32.toInt_inj, Int32.le_iff_toInt_le, Int32.lt_iff_toInt_lt, Int32.reduceToInt, z_neg1] at *; omega) (z_up c6 hm)
          · refine zg_st (pc' := 40) (L' := [some (.inr 0), some (.inl x1), some (.inl v2), some (.inl v3), none]) (S' := []) (M' := M) rfl rfl rfl rfl ?_
            refine zg_iload_n (x := v3) dX5_take_40 rfl ?_
            refine zg_istore_n dX5_take_41 (by decide) ?_
            refine zg_st (pc' := 42) (L' := [some (.inr 0), some (.inl x1), some (.inl v3), some (.inl v3), none]) (S' := []) (M' := M) rfl rfl rfl rfl ?_
            refine zg_iinc (v := (v3 + 1)) dX5_take_42 rfl (by decide) rfl ?_
            refine zg_st (pc' := 45) (L' := [some (.inr 0), some (.inl x1), some (.inl v3), some (.inl (v3 + 1)), none]) (S' := []) (M' := M) rfl rfl rfl rfl ?_
            refine zg_goto (tgt := 4) dX5_take_45 rfl ?_
            refine zg_st (pc' := 4) (L' := [some (.inr 0), some (.inl x1), some (.inl v3), some (.inl (v3 + 1)), none]) (S' := []) (M' := M) rfl rfl rfl rfl ?_
            refine zg_drop (L' := [some (.inr 0), some (.inl x1), some (.inl v3), some (.inl (v3 + 1)), none]) ⟨rfl, rfl, rfl, rfl, trivial⟩ ?_
            exact ih v3 (v3 + 1) (by clear ih hx; have e := z_p1 c6; simp only [zTk, ← Int32.toInt_inj, Int32.le_iff_toInt_le, Int32.lt_iff_toInt_lt, Int32.reduceToInt, z_neg1] at *; omega) (z_up c6 hm)
def b_X5_take_56 (x2 : Int32) (M : Mem) (rec : Int32 → Int32 → Int32 × Int32) (v3 : Int32) (v4 : Int32) : Int32 × Int32 :=
  if ((40 * x2) + 40) ≤ v4 then (v3, v4)
  else if ¬ v3 = (-1) then (v3, v4)
  else if (M 12 v4.toNatClampNeg) = 0 then rec v4 (v4 + 1)
  else rec (-1) (v4 + 1)
def l_X5_take_56 (x2 : Int32) (M : Mem) : Nat → Int32 → Int32 → Int32 × Int32
  | 0, v3, v4 => (v3, v4)
  | n + 1, v3, v4 => b_X5_take_56 x2 M (l_X5_take_56 x2 M n) v3 v4
set_option maxRecDepth 100000 in
set_option maxHeartbeats 4000000 in
theorem kl_X5_take_56 (q : ZQ) (x2 : Int32) (M : Mem) (hx2 : 0 ≤ x2.toInt ∧ x2.toInt < 3) {K : Int32 × Int32 → ZR} (hx : ∀ e : Int32 × Int32, (0 : Int) ≤ e.2.toInt ∧ (-1 ≤ e.1.toInt ∧ e.1.toInt < 120) → Zg (zgM q) mX5_take 0 0 0 0 (K e) 96 [some (.inr 0), none, some (.inl x2), some (.inl e.1), some (.inl e.2)] [] M) :
    ∀ (n : Nat) (v3 : Int32) (v4 : Int32), (0 : Int) ≤ v4.toInt ∧ (-1 ≤ v3.toInt ∧ v3.toInt < 120) → ((((40 * x2) + 40) : Int32).toInt - (v4 : Int32).toInt).toNat < n → Zg (zgM q) mX5_take 0 0 0 0 (zlet (l_X5_take_56 x2 M n v3 v4) K) 56 [some (.inr 0), none, some (.inl x2), some (.inl v3), some (.inl v4)] [] M := by
  intro n
  induction n with
  | zero => intro v3 v4 hI hm; exact absurd hm (Nat.not_lt_zero _)
  | succ n ih =>
    intro v3 v4 hI hm
    show Zg _ _ _ _ _ _ (zlet (b_X5_take_56 x2 M (l_X5_take_56 x2 M n) v3 v4) K) _ _ _ _
    unfold b_X5_take_56
    refine zg_iload (x := v4) dX5_take_56 rfl ?_
    refine zg_bipush (v := 40) dX5_take_58 rfl ?_
    refine zg_iload_n (x := x2) dX5_take_60 rfl ?_
    refine zg_imul dX5_take_61 ?_
    refine zg_bipush (v := 40) dX5_take_62 rfl ?_
    refine zg_iadd dX5_take_64 ?_
    refine zg_icmpz (tgt := 96) dX5_take_65 rfl rfl (fun c65 => ?_) (fun c65 => ?_)
    · refine zg_st (pc' := 96) (L' := [some (.inr 0), none, some (.inl x2), some (.inl v3), some (.inl v4)]) (S' := []) (M' := M) rfl rfl rfl rfl ?_
      refine zg_drop (L' := [some (.inr 0), none, some (.inl x2), some (.inl v3), some (.inl v4)]) ⟨rfl, rfl, rfl, rfl, trivial⟩ ?_
      exact hx (v3, v4) hI
    · refine zg_st (pc' := 68) (L' := [some (.inr 0), none, some (.inl x2), some (.inl v3), some (.inl v4)]) (S' := []) (M' := M) rfl rfl rfl rfl ?_
      refine zg_iload_n (x := v3) dX5_take_68 rfl ?_
      refine zg_iconst (v := (-1)) dX5_take_69 rfl ?_
      refine zg_icmpz (tgt := 96) dX5_take_70 rfl rfl (fun c70 => ?_) (fun c70 => ?_)
      · refine zg_st (pc' := 96) (L' := [some (.inr 0), none, some (.inl x2), some (.inl v3), some (.inl v4)]) (S' := []) (M' := M) rfl rfl rfl rfl ?_
        refine zg_drop (L' := [some (.inr 0), none, some (.inl x2), some (.inl v3), some (.inl v4)]) ⟨rfl, rfl, rfl, rfl, trivial⟩ ?_
        exact hx (v3, v4) hI
      · refine zg_st (pc' := 73) (L' := [some (.inr 0), none, some (.inl x2), some (.inl v3), some (.inl v4)]) (S' := []) (M' := M) rfl rfl rfl rfl ?_
        refine zg_aload_n (x := 0) dX5_take_73 rfl ?_
        refine zg_getf (v := .inr 12) dX5_take_74 zf_X5_48 rfl rfl rfl ?_
        refine zg_iload (x := v4) dX5_take_77 rfl ?_
        refine zg_zald dX5_take_79 rfl (z_cf c65 hx2 hI.1) ?_
        refine zg_ifz (tgt := 87) dX5_take_80 rfl rfl (fun c80 => ?_) (fun c80 => ?_)
        · refine zg_st (pc' := 87) (L' := [some (.inr 0), none, some (.inl x2), some (.inl v3), some (.inl v4)]) (S' := []) (M' := M) rfl rfl rfl rfl ?_
          refine zg_iload (x := v4) dX5_take_87 rfl ?_
          refine zg_istore_n dX5_take_89 (by decide) ?_
          refine zg_st (pc' := 90) (L' := [some (.inr 0), none, some (.inl x2), some (.inl v4), some (.inl v4)]) (S' := []) (M' := M) rfl rfl rfl rfl ?_
          refine zg_iinc (v := (v4 + 1)) dX5_take_90 rfl (by decide) rfl ?_
          refine zg_st (pc' := 93) (L' := [some (.inr 0), none, some (.inl x2), some (.inl v4), some (.inl (v4 + 1))]) (S' := []) (M' := M) rfl rfl rfl rfl ?_
          refine zg_goto (tgt := 56) dX5_take_93 rfl ?_
          refine zg_st (pc' := 56) (L' := [some (.inr 0), none, some (.inl x2), some (.inl v4), some (.inl (v4 + 1))]) (S' := []) (M' := M) rfl rfl rfl rfl ?_
          refine zg_drop (L' := [some (.inr 0), none, some (.inl x2), some (.inl v4), some (.inl (v4 + 1))]) ⟨rfl, rfl, rfl, rfl, trivial⟩ ?_
          exact ih v4 (v4 + 1) ⟨z_ge0 c65 hI.1, by first | with_reducible exact z_tk1 c65 hx2 hI.1 | decide⟩ (z_up c65 hm)
        · refine zg_st (pc' := 83) (L' := [some (.inr 0), none, some (.inl x2), some (.inl v3), some (.inl v4)]) (S' := []) (M' := M) rfl rfl rfl rfl ?_
          refine zg_iconst (v := (-1)) dX5_take_83 rfl ?_
          refine zg_goto (tgt := 89) dX5_take_84 rfl ?_
          refine zg_st (pc' := 89) (L' := [some (.inr 0), none, some (.inl x2), some (.inl v3), some (.inl v4)]) (S' := [.inl (-1)]) (M' := M) rfl rfl rfl rfl ?_
          refine zg_istore_n dX5_take_89 (by decide) ?_
          refine zg_st (pc' := 90) (L' := [some (.inr 0), none, some (.inl x2), some (.inl (-1)), some (.inl v4)]) (S' := []) (M' := M) rfl rfl rfl rfl ?_
          refine zg_iinc (v := (v4 + 1)) dX5_take_90 rfl (by decide) rfl ?_
          refine zg_st (pc' := 93) (L' := [some (.inr 0), none, some (.inl x2), some (.inl (-1)), some (.inl (v4 + 1))]) (S' := []) (M' := M) rfl rfl rfl rfl ?_
          refine zg_goto (tgt := 56) dX5_take_93 rfl ?_
          refine zg_st (pc' := 56) (L' := [some (.inr 0), none, some (.inl x2), some (.inl (-1)), some (.inl (v4 + 1))]) (S' := []) (M' := M) rfl rfl rfl rfl ?_
          refine zg_drop (L' := [some (.inr 0), none, some (.inl x2), some (.inl (-1)), some (.inl (v4 + 1))]) ⟨rfl, rfl, rfl, rfl, trivial⟩ ?_
          exact ih (-1) (v4 + 1) ⟨z_ge0 c65 hI.1, by first | with_reducible exact z_tk1 c65 hx2 hI.1 | decide⟩ (z_up c65 hm)
def f_X5_take (p1 : Int32) (M : Mem) : (Int32 × Mem) :=
  zlet (l_X5_take_4 p1 M 4 (-1) 0) (fun s1 =>
  zlet (l_X5_take_56 s1.1 M (((((40 * s1.1) + 40) : Int32).toInt - ((40 * s1.1) : Int32).toInt).toNat + 1) (-1) (40 * s1.1)) (fun s2 =>
    if s2.1 = (-1) then (s2.1, M)
      else (s2.1, (mup (mup M 12 s2.1.toNatClampNeg 1) 0 19 (((mup M 12 s2.1.toNatClampNeg 1) 0 19) + 1)))))
set_option maxRecDepth 100000 in
set_option maxHeartbeats 4000000 in
theorem k_X5_take (q : ZQ) (p1 : Int32) (M : Mem) : Zc (zgM q) mX5_take 0 0 [.inr 0, .inl p1] M (wIM (f_X5_take p1 M)) := by
  refine Zc.of (by decide) zi_X5_take.1 (Nat.le_of_ble_eq_true rfl) rfl ?_
  show Zg _ _ _ _ _ _ (zlet (f_X5_take p1 M) wIM) _ _ _ _
  unfold f_X5_take
  refine zg_iconst (v := (-1)) dX5_take_0 rfl ?_
  refine zg_istore_n dX5_take_1 (by decide) ?_
  refine zg_st (pc' := 2) (L' := [some (.inr 0), some (.inl p1), some (.inl (-1)), none, none]) (S' := []) (M' := M) rfl rfl rfl rfl ?_
  refine zg_iconst (v := 0) dX5_take_2 rfl ?_
  refine zg_istore_n dX5_take_3 (by decide) ?_
  refine zg_st (pc' := 4) (L' := [some (.inr 0), some (.inl p1), some (.inl (-1)), some (.inl 0), none]) (S' := []) (M' := M) rfl rfl rfl rfl ?_
  refine zg_asc ?_
  refine zg_drop (L' := [some (.inr 0), some (.inl p1), some (.inl (-1)), some (.inl 0), none]) ⟨rfl, rfl, rfl, rfl, trivial⟩ ?_
  refine kl_X5_take_4 q p1 M (fun s1 hI_s1 => ?_) 4 (-1) 0 (by simp [zTk]) (by decide)
  try dsimp only [Sum.elim_inr]
  refine zg_st (pc' := 48) (L' := [some (.inr 0), some (.inl p1), some (.inl s1.1), some (.inl s1.2), none]) (S' := []) (M' := M) rfl rfl rfl rfl ?_
  refine zg_iconst (v := (-1)) dX5_take_48 rfl ?_
  refine zg_istore_n dX5_take_49 (by decide) ?_
  refine zg_st (pc' := 50) (L' := [some (.inr 0), some (.inl p1), some (.inl s1.1), some (.inl (-1)), none]) (S' := []) (M' := M) rfl rfl rfl rfl ?_
  refine zg_bipush (v := 40) dX5_take_50 rfl ?_
  refine zg_iload_n (x := s1.1) dX5_take_52 rfl ?_
  refine zg_imul dX5_take_53 ?_
  refine zg_istore dX5_take_54 (by decide) ?_
  refine zg_st (pc' := 56) (L' := [some (.inr 0), some (.inl p1), some (.inl s1.1), some (.inl (-1)), some (.inl (40 * s1.1))]) (S' := []) (M' := M) rfl rfl rfl rfl ?_
  refine zg_asc ?_
  refine zg_drop (L' := [some (.inr 0), none, some (.inl s1.1), some (.inl (-1)), some (.inl (40 * s1.1))]) ⟨rfl, rfl, rfl, rfl, trivial⟩ ?_
  refine kl_X5_take_56 q s1.1 M hI_s1 (fun s2 hI_s2 => ?_) (((((40 * s1.1) + 40) : Int32).toInt - ((40 * s1.1) : Int32).toInt).toNat + 1) (-1) (40 * s1.1) ⟨by rw [z40' hI_s1]; omega, by decide⟩ (Nat.lt_succ_self _)
  try dsimp only [Sum.elim_inr]
  refine zg_st (pc' := 96) (L' := [some (.inr 0), none, some (.inl s1.1), some (.inl s2.1), some (.inl s2.2)]) (S' := []) (M' := M) rfl rfl rfl rfl ?_
  refine zg_iload_n (x := s2.1) dX5_take_96 rfl ?_
  refine zg_iconst (v := (-1)) dX5_take_97 rfl ?_
  refine zg_icmpz (tgt := 118) dX5_take_98 rfl rfl (fun c98 => ?_) (fun c98 => ?_)
  · refine zg_st (pc' := 118) (L' := [some (.inr 0), none, some (.inl s1.1), some (.inl s2.1), some (.inl s2.2)]) (S' := []) (M' := M) rfl rfl rfl rfl ?_
    refine zg_iload_n (x := s2.1) dX5_take_118 rfl ?_
    exact zg_iret dX5_take_119 rfl rfl ⟨by decide, by decide⟩ rfl
  · refine zg_st (pc' := 101) (L' := [some (.inr 0), none, some (.inl s1.1), some (.inl s2.1), some (.inl s2.2)]) (S' := []) (M' := M) rfl rfl rfl rfl ?_
    refine zg_aload_n (x := 0) dX5_take_101 rfl ?_
    refine zg_getf (v := .inr 12) dX5_take_102 zf_X5_48 rfl rfl rfl ?_
    refine zg_iload_n (x := s2.1) dX5_take_105 rfl ?_
    refine zg_iconst (v := 1) dX5_take_106 rfl ?_
    refine zg_zast (v := 1) dX5_take_107 rfl (z_nn hI_s2.2 c98) rfl ?_
    refine zg_aload_n (x := 0) dX5_take_108 rfl ?_
    refine zg_dup dX5_take_109 ?_
    refine zg_getf (v := .inl ((mup M 12 s2.1.toNatClampNeg 1) 0 19)) dX5_take_110 zf_X5_112 rfl rfl rfl ?_
    refine zg_iconst (v := 1) dX5_take_113 rfl ?_
    refine zg_iadd dX5_take_114 ?_
    refine zg_putf dX5_take_115 zp_X5_112 rfl rfl ?_
    refine zg_iload_n (x := s2.1) dX5_take_118 rfl ?_
    exact zg_iret dX5_take_119 rfl rfl ⟨by decide, by decide⟩ rfl
def b_X5_countFree_8_8 (x1 : Int32) (M : Mem) (rec : Int32 → Int32 → Int32 × Int32) (v3 : Int32) (v4 : Int32) : Int32 × Int32 :=
  if ((40 * x1) + 40) ≤ v4 then (v3, v4)
  else if (M 8 v4.toNatClampNeg) = 0 then rec (v3 + 1) (v4 + 1)
  else rec (v3 + 0) (v4 + 1)
def l_X5_countFree_8_8 (x1 : Int32) (M : Mem) : Nat → Int32 → Int32 → Int32 × Int32
  | 0, v3, v4 => (v3, v4)
  | n + 1, v3, v4 => b_X5_countFree_8_8 x1 M (l_X5_countFree_8_8 x1 M n) v3 v4
set_option maxRecDepth 100000 in
set_option maxHeartbeats 4000000 in
theorem kl_X5_countFree_8_8 (q : ZQ) (x1 : Int32) (M : Mem) (hx1 : 0 ≤ x1.toInt ∧ x1.toInt < 3) {K : Int32 × Int32 → ZR} (hx : ∀ e : Int32 × Int32, (0 : Int) ≤ e.2.toInt → Zg (zgM q) mX5_countFree 0 0 0 0 (K e) 41 [some (.inr 0), some (.inl x1), some (.inr 8), some (.inl e.1), some (.inl e.2)] [] M) :
    ∀ (n : Nat) (v3 : Int32) (v4 : Int32), (0 : Int) ≤ v4.toInt → ((((40 * x1) + 40) : Int32).toInt - (v4 : Int32).toInt).toNat < n → Zg (zgM q) mX5_countFree 0 0 0 0 (zlet (l_X5_countFree_8_8 x1 M n v3 v4) K) 8 [some (.inr 0), some (.inl x1), some (.inr 8), some (.inl v3), some (.inl v4)] [] M := by
  intro n
  induction n with
  | zero => intro v3 v4 hI hm; exact absurd hm (Nat.not_lt_zero _)
  | succ n ih =>
    intro v3 v4 hI hm
    show Zg _ _ _ _ _ _ (zlet (b_X5_countFree_8_8 x1 M (l_X5_countFree_8_8 x1 M n) v3 v4) K) _ _ _ _
    unfold b_X5_countFree_8_8
    refine zg_iload (x := v4) dX5_countFree_8 rfl ?_
    refine zg_bipush (v := 40) dX5_countFree_10 rfl ?_
    refine zg_iload_n (x := x1) dX5_countFree_12 rfl ?_
    refine zg_imul dX5_countFree_13 ?_
    refine zg_bipush (v := 40) dX5_countFree_14 rfl ?_
    refine zg_iadd dX5_countFree_16 ?_
    refine zg_icmpz (tgt := 41) dX5_countFree_17 rfl rfl (fun c17 => ?_) (fun c17 => ?_)
    · refine zg_st (pc' := 41) (L' := [some (.inr 0), some (.inl x1), some (.inr 8), some (.inl v3), some (.inl v4)]) (S' := []) (M' := M) rfl rfl rfl rfl ?_
      refine zg_drop (L' := [some (.inr 0), some (.inl x1), some (.inr 8), some (.inl v3), some (.inl v4)]) ⟨rfl, rfl, rfl, rfl, rfl, trivial⟩ ?_
      exact hx (v3, v4) hI
    · refine zg_st (pc' := 20) (L' := [some (.inr 0), some (.inl x1), some (.inr 8), some (.inl v3), some (.inl v4)]) (S' := []) (M' := M) rfl rfl rfl rfl ?_
      refine zg_iload_n (x := v3) dX5_countFree_20 rfl ?_
      refine zg_aload_n (x := 8) dX5_countFree_21 rfl ?_
      refine zg_iload (x := v4) dX5_countFree_22 rfl ?_
      refine zg_zald dX5_countFree_24 rfl (z_cf c17 hx1 hI) ?_
      refine zg_ifz (tgt := 32) dX5_countFree_25 rfl rfl (fun c25 => ?_) (fun c25 => ?_)
      · refine zg_st (pc' := 32) (L' := [some (.inr 0), some (.inl x1), some (.inr 8), some (.inl v3), some (.inl v4)]) (S' := [.inl v3]) (M' := M) rfl rfl rfl rfl ?_
        refine zg_iconst (v := 1) dX5_countFree_32 rfl ?_
        refine zg_iadd dX5_countFree_33 ?_
        refine zg_istore_n dX5_countFree_34 (by decide) ?_
        refine zg_st (pc' := 35) (L' := [some (.inr 0), some (.inl x1), some (.inr 8), some (.inl (v3 + 1)), some (.inl v4)]) (S' := []) (M' := M) rfl rfl rfl rfl ?_
        refine zg_iinc (v := (v4 + 1)) dX5_countFree_35 rfl (by decide) rfl ?_
        refine zg_st (pc' := 38) (L' := [some (.inr 0), some (.inl x1), some (.inr 8), some (.inl (v3 + 1)), some (.inl (v4 + 1))]) (S' := []) (M' := M) rfl rfl rfl rfl ?_
        refine zg_goto (tgt := 8) dX5_countFree_38 rfl ?_
        refine zg_st (pc' := 8) (L' := [some (.inr 0), some (.inl x1), some (.inr 8), some (.inl (v3 + 1)), some (.inl (v4 + 1))]) (S' := []) (M' := M) rfl rfl rfl rfl ?_
        refine zg_drop (L' := [some (.inr 0), some (.inl x1), some (.inr 8), some (.inl (v3 + 1)), some (.inl (v4 + 1))]) ⟨rfl, rfl, rfl, rfl, rfl, trivial⟩ ?_
        exact ih (v3 + 1) (v4 + 1) (z_ge0 c17 hI) (z_up c17 hm)
      · refine zg_st (pc' := 28) (L' := [some (.inr 0), some (.inl x1), some (.inr 8), some (.inl v3), some (.inl v4)]) (S' := [.inl v3]) (M' := M) rfl rfl rfl rfl ?_
        refine zg_iconst (v := 0) dX5_countFree_28 rfl ?_
        refine zg_goto (tgt := 33) dX5_countFree_29 rfl ?_
        refine zg_st (pc' := 33) (L' := [some (.inr 0), some (.inl x1), some (.inr 8), some (.inl v3), some (.inl v4)]) (S' := [.inl 0, .inl v3]) (M' := M) rfl rfl rfl rfl ?_
        refine zg_iadd dX5_countFree_33 ?_
        refine zg_istore_n dX5_countFree_34 (by decide) ?_
        refine zg_st (pc' := 35) (L' := [some (.inr 0), some (.inl x1), some (.inr 8), some (.inl (v3 + 0)), some (.inl v4)]) (S' := []) (M' := M) rfl rfl rfl rfl ?_
        refine zg_iinc (v := (v4 + 1)) dX5_countFree_35 rfl (by decide) rfl ?_
        refine zg_st (pc' := 38) (L' := [some (.inr 0), some (.inl x1), some (.inr 8), some (.inl (v3 + 0)), some (.inl (v4 + 1))]) (S' := []) (M' := M) rfl rfl rfl rfl ?_
        refine zg_goto (tgt := 8) dX5_countFree_38 rfl ?_
        refine zg_st (pc' := 8) (L' := [some (.inr 0), some (.inl x1), some (.inr 8), some (.inl (v3 + 0)), some (.inl (v4 + 1))]) (S' := []) (M' := M) rfl rfl rfl rfl ?_
        refine zg_drop (L' := [some (.inr 0), some (.inl x1), some (.inr 8), some (.inl (v3 + 0)), some (.inl (v4 + 1))]) ⟨rfl, rfl, rfl, rfl, rfl, trivial⟩ ?_
        exact ih (v3 + 0) (v4 + 1) (z_ge0 c17 hI) (z_up c17 hm)
def f_X5_countFree_8 (p1 : Int32) (M : Mem) : Int32 :=
  zlet (l_X5_countFree_8_8 p1 M (((((40 * p1) + 40) : Int32).toInt - ((40 * p1) : Int32).toInt).toNat + 1) 0 (40 * p1)) (fun s1 =>
  s1.1)
set_option maxRecDepth 100000 in
set_option maxHeartbeats 4000000 in
theorem k_X5_countFree_8 (q : ZQ) (p1 : Int32) (M : Mem) (hp : 0 ≤ p1.toInt ∧ p1.toInt < 3) : Zc (zgM q) mX5_countFree 0 0 [.inr 0, .inl p1, .inr 8] M (wI M (f_X5_countFree_8 p1 M)) := by
  refine Zc.of (by decide) zi_X5_countFree.1 (Nat.le_of_ble_eq_true rfl) rfl ?_
  show Zg _ _ _ _ _ _ (zlet (f_X5_countFree_8 p1 M) (wI M)) _ _ _ _
  unfold f_X5_countFree_8
  refine zg_iconst (v := 0) dX5_countFree_0 rfl ?_
  refine zg_istore_n dX5_countFree_1 (by decide) ?_
  refine zg_st (pc' := 2) (L' := [some (.inr 0), some (.inl p1), some (.inr 8), some (.inl 0), none]) (S' := []) (M' := M) rfl rfl rfl rfl ?_
  refine zg_bipush (v := 40) dX5_countFree_2 rfl ?_
  refine zg_iload_n (x := p1) dX5_countFree_4 rfl ?_
  refine zg_imul dX5_countFree_5 ?_
  refine zg_istore dX5_countFree_6 (by decide) ?_
  refine zg_st (pc' := 8) (L' := [some (.inr 0), some (.inl p1), some (.inr 8), some (.inl 0), some (.inl (40 * p1))]) (S' := []) (M' := M) rfl rfl rfl rfl ?_
  refine zg_asc ?_
  refine zg_drop (L' := [some (.inr 0), some (.inl p1), some (.inr 8), some (.inl 0), some (.inl (40 * p1))]) ⟨rfl, rfl, rfl, rfl, rfl, trivial⟩ ?_
  refine kl_X5_countFree_8_8 q p1 M hp (fun s1 hI_s1 => ?_) (((((40 * p1) + 40) : Int32).toInt - ((40 * p1) : Int32).toInt).toNat + 1) 0 (40 * p1) (by rw [z40' hp]; omega) (Nat.lt_succ_self _)
  try dsimp only [Sum.elim_inr]
  refine zg_st (pc' := 41) (L' := [some (.inr 0), some (.inl p1), some (.inr 8), some (.inl s1.1), some (.inl s1.2)]) (S' := []) (M' := M) rfl rfl rfl rfl ?_
  refine zg_iload_n (x := s1.1) dX5_countFree_41 rfl ?_
  exact zg_iret dX5_countFree_42 rfl rfl ⟨by decide, by decide⟩ rfl
