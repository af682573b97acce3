theorem dX5_readOn_0 : decode cX5_readOn 0 = .ok (.iconst 0, 1) := by decide +kernel
theorem dX5_readOn_1 : decode cX5_readOn 1 = .ok (.istore_n 2, 1) := by decide +kernel
theorem dX5_readOn_2 : decode cX5_readOn 2 = .ok (.iconst 0, 1) := by decide +kernel
theorem dX5_readOn_3 : decode cX5_readOn 3 = .ok (.istore_n 3, 1) := by decide +kernel
theorem dX5_readOn_4 : decode cX5_readOn 4 = .ok (.iload_n 3, 1) := by decide +kernel
theorem dX5_readOn_5 : decode cX5_readOn 5 = .ok (.iconst 4, 1) := by decide +kernel
theorem dX5_readOn_6 : decode cX5_readOn 6 = .ok (.if_icmp .ge 71, 3) := by decide +kernel
theorem dX5_readOn_9 : decode cX5_readOn 9 = .ok (.iload_n 2, 1) := by decide +kernel
theorem dX5_readOn_10 : decode cX5_readOn 10 = .ok (.ifCond .ne 67, 3) := by decide +kernel
theorem dX5_readOn_13 : decode cX5_readOn 13 = .ok (.iload_n 3, 1) := by decide +kernel
theorem dX5_readOn_14 : decode cX5_readOn 14 = .ok (.iconst 2, 1) := by decide +kernel
theorem dX5_readOn_15 : decode cX5_readOn 15 = .ok (.if_icmp .ge 12, 3) := by decide +kernel
theorem dX5_readOn_18 : decode cX5_readOn 18 = .ok (.aload_n 0, 1) := by decide +kernel
theorem dX5_readOn_19 : decode cX5_readOn 19 = .ok (.getfield 23, 3) := by decide +kernel
theorem dX5_readOn_22 : decode cX5_readOn 22 = .ok (.iload_n 1, 1) := by decide +kernel
theorem dX5_readOn_23 : decode cX5_readOn 23 = .ok (.iaload, 1) := by decide +kernel
theorem dX5_readOn_24 : decode cX5_readOn 24 = .ok (.goto 9, 3) := by decide +kernel
theorem dX5_readOn_27 : decode cX5_readOn 27 = .ok (.aload_n 0, 1) := by decide +kernel
theorem dX5_readOn_28 : decode cX5_readOn 28 = .ok (.getfield 26, 3) := by decide +kernel
theorem dX5_readOn_31 : decode cX5_readOn 31 = .ok (.iload_n 1, 1) := by decide +kernel
theorem dX5_readOn_32 : decode cX5_readOn 32 = .ok (.iaload, 1) := by decide +kernel
theorem dX5_readOn_33 : decode cX5_readOn 33 = .ok (.istore 4, 2) := by decide +kernel
theorem dX5_readOn_35 : decode cX5_readOn 35 = .ok (.aload_n 0, 1) := by decide +kernel
theorem dX5_readOn_36 : decode cX5_readOn 36 = .ok (.iload 4, 2) := by decide +kernel
theorem dX5_readOn_38 : decode cX5_readOn 38 = .ok (.iload_n 3, 1) := by decide +kernel
theorem dX5_readOn_39 : decode cX5_readOn 39 = .ok (.iconst 2, 1) := by decide +kernel
theorem dX5_readOn_40 : decode cX5_readOn 40 = .ok (.irem, 1) := by decide +kernel
theorem dX5_readOn_41 : decode cX5_readOn 41 = .ok (.invokevirtual 82, 3) := by decide +kernel
theorem dX5_readOn_44 : decode cX5_readOn 44 = .ok (.istore_n 2, 1) := by decide +kernel
theorem dX5_readOn_45 : decode cX5_readOn 45 = .ok (.aload_n 0, 1) := by decide +kernel
theorem dX5_readOn_46 : decode cX5_readOn 46 = .ok (.dup, 1) := by decide +kernel
theorem dX5_readOn_47 : decode cX5_readOn 47 = .ok (.getfield 85, 3) := by decide +kernel
theorem dX5_readOn_50 : decode cX5_readOn 50 = .ok (.iload_n 2, 1) := by decide +kernel
theorem dX5_readOn_51 : decode cX5_readOn 51 = .ok (.ifCond .eq 7, 3) := by decide +kernel
theorem dX5_readOn_54 : decode cX5_readOn 54 = .ok (.iconst 0, 1) := by decide +kernel
theorem dX5_readOn_55 : decode cX5_readOn 55 = .ok (.goto 12, 3) := by decide +kernel
theorem dX5_readOn_58 : decode cX5_readOn 58 = .ok (.aload_n 0, 1) := by decide +kernel
theorem dX5_readOn_59 : decode cX5_readOn 59 = .ok (.iload 4, 2) := by decide +kernel
theorem dX5_readOn_61 : decode cX5_readOn 61 = .ok (.iload_n 3, 1) := by decide +kernel
theorem dX5_readOn_62 : decode cX5_readOn 62 = .ok (.iconst 2, 1) := by decide +kernel
theorem dX5_readOn_63 : decode cX5_readOn 63 = .ok (.irem, 1) := by decide +kernel
theorem dX5_readOn_64 : decode cX5_readOn 64 = .ok (.invokevirtual 88, 3) := by decide +kernel
theorem dX5_readOn_67 : decode cX5_readOn 67 = .ok (.iadd, 1) := by decide +kernel
theorem dX5_readOn_68 : decode cX5_readOn 68 = .ok (.putfield 85, 3) := by decide +kernel
theorem dX5_readOn_71 : decode cX5_readOn 71 = .ok (.iinc 3 1, 3) := by decide +kernel
theorem dX5_readOn_74 : decode cX5_readOn 74 = .ok (.goto (-70), 3) := by decide +kernel
theorem dX5_readOn_77 : decode cX5_readOn 77 = .ok (.return_, 1) := by decide +kernel
def b_X5_readOn_4 (x1 : Int32) (rec : Bool → Int32 → Mem → Bool × Int32 × Mem) (v2 : Bool) (v3 : Int32) (N : Mem) : Bool × Int32 × Mem :=
  if 4 ≤ v3 then (v2, v3, N)
  else if v2 then (v2, v3, N)
  else if 2 ≤ v3 then if (f_X5_isGood (N 5 x1.toNatClampNeg) (v3 - v3 / 2 * 2) N) then rec (f_X5_isGood (N 5 x1.toNatClampNeg) (v3 - v3 / 2 * 2) N) (v3 + 1) (mup N 0 2 ((N 0 2) + 0))
    else zlet (f_X5_heal (N 5 x1.toNatClampNeg) (v3 - v3 / 2 * 2) N) (fun q1 =>
    rec (f_X5_isGood (N 5 x1.toNatClampNeg) (v3 - v3 / 2 * 2) N) (v3 + 1) (mup q1.2 0 2 ((N 0 2) + q1.1)))
  else if (f_X5_isGood (N 4 x1.toNatClampNeg) (v3 - v3 / 2 * 2) N) then rec (f_X5_isGood (N 4 x1.toNatClampNeg) (v3 - v3 / 2 * 2) N) (v3 + 1) (mup N 0 2 ((N 0 2) + 0))
  else zlet (f_X5_heal (N 4 x1.toNatClampNeg) (v3 - v3 / 2 * 2) N) (fun q2 =>
  rec (f_X5_isGood (N 4 x1.toNatClampNeg) (v3 - v3 / 2 * 2) N) (v3 + 1) (mup q2.2 0 2 ((N 0 2) + q2.1)))
def l_X5_readOn_4 (x1 : Int32) : Nat → Bool → Int32 → Mem → Bool × Int32 × Mem
  | 0, v2, v3, N => (v2, v3, N)
  | n + 1, v2, v3, N => b_X5_readOn_4 x1 (l_X5_readOn_4 x1 n) v2 v3 N
set_option maxRecDepth 100000 in
set_option maxHeartbeats 4000000 in
theorem kl_X5_readOn_4 (q : ZQ) (x1 : Int32) (hx1 : vp_in x1 53) {K : Bool × Int32 × Mem → ZR} (hx : ∀ e : Bool × Int32 × Mem, PlM e.2.2 ∧ 0 ≤ e.2.1.toInt ∧ e.2.1.toInt ≤ 4 → Zg (zgM q) mX5_readOn 0 0 0 0 (K e) 77 [some (.inr 0), some (.inl x1), some (.inl (bI e.1)), some (.inl e.2.1), none] [] e.2.2) :
    ∀ (n : Nat) (v2 : Bool) (v3 : Int32) (N : Mem), PlM N ∧ 0 ≤ v3.toInt ∧ v3.toInt ≤ 4 → ((4 : Int32).toInt - (v3 : Int32).toInt).toNat < n → Zg (zgM q) mX5_readOn 0 0 0 0 (zlet (l_X5_readOn_4 x1 n v2 v3 N) K) 4 [some (.inr 0), some (.inl x1), some (.inl (bI v2)), some (.inl v3), none] [] N := by
  intro n
  induction n with
  | zero => intro v2 v3 N hI hm; exact absurd hm (Nat.not_lt_zero _)
  | succ n ih =>
    intro v2 v3 N hI hm
    show Zg _ _ _ _ _ _ (zlet (b_X5_readOn_4 x1 (l_X5_readOn_4 x1 n) v2 v3 N) K) _ _ _ _
    unfold b_X5_readOn_4
    refine zg_iload_n (x := v3) dX5_readOn_4 rfl ?_
    refine zg_iconst (v := 4) dX5_readOn_5 rfl ?_
    refine zg_icmpz (tgt := 77) dX5_readOn_6 rfl rfl (fun c6 => ?_) (fun c6 => ?_)
    · refine zg_st (pc' := 77) (L' := [some (.inr 0), some (.inl x1), some (.inl (bI v2)), some (.inl v3), none]) (S' := []) (M' := N) rfl rfl rfl rfl ?_
      refine zg_drop (L' := [some (.inr 0), some (.inl x1), some (.inl (bI v2)), some (.inl v3), none]) ⟨rfl, rfl, rfl, rfl, trivial⟩ ?_
      exact hx (v2, v3, N) hI
    · refine zg_st (pc' := 9) (L' := [some (.inr 0), some (.inl x1), some (.inl (bI v2)), some (.inl v3), none]) (S' := []) (M' := N) rfl rfl rfl rfl ?_
      refine zg_iload_n (x := bI v2) dX5_readOn_9 rfl ?_
      refine zg_ifbn (tgt := 77) dX5_readOn_10 rfl (fun c10 => ?_) (fun c10 => ?_)
      · refine zg_st (pc' := 77) (L' := [some (.inr 0), some (.inl x1), some (.inl (bI v2)), some (.inl v3), none]) (S' := []) (M' := N) rfl rfl rfl rfl ?_
        refine zg_drop (L' := [some (.inr 0), some (.inl x1), some (.inl (bI v2)), some (.inl v3), none]) ⟨rfl, rfl, rfl, rfl, trivial⟩ ?_
        exact hx (v2, v3, N) hI
      · refine zg_st (pc' := 13) (L' := [some (.inr 0), some (.inl x1), some (.inl (bI v2)), some (.inl v3), none]) (S' := []) (M' := N) rfl rfl rfl rfl ?_
        refine zg_iload_n (x := v3) dX5_readOn_13 rfl ?_
        refine zg_iconst (v := 2) dX5_readOn_14 rfl ?_
        refine zg_icmpz (tgt := 27) dX5_readOn_15 rfl rfl (fun c15 => ?_) (fun c15 => ?_)
        · refine zg_st (pc' := 27) (L' := [some (.inr 0), some (.inl x1), some (.inl (bI v2)), some (.inl v3), none]) (S' := []) (M' := N) rfl rfl rfl rfl ?_
          refine zg_aload_n (x := 0) dX5_readOn_27 rfl ?_
          refine zg_getf (v := .inr 5) dX5_readOn_28 zf_X5_26 rfl rfl rfl ?_
          refine zg_iload_n (x := x1) dX5_readOn_31 rfl ?_
          refine zg_iald dX5_readOn_32 rfl hx1 ?_
          refine zg_istore dX5_readOn_33 (by decide) ?_
          refine zg_st (pc' := 35) (L' := [some (.inr 0), some (.inl x1), some (.inl (bI v2)), some (.inl v3), some (.inl (N 5 x1.toNatClampNeg))]) (S' := []) (M' := N) rfl rfl rfl rfl ?_
          refine zg_aload_n (x := 0) dX5_readOn_35 rfl ?_
          refine zg_iload (x := (N 5 x1.toNatClampNeg)) dX5_readOn_36 rfl ?_
          refine zg_iload_n (x := v3) dX5_readOn_38 rfl ?_
          refine zg_iconst (v := 2) dX5_readOn_39 rfl ?_
          refine zg_irem dX5_readOn_40 (by decide) ?_
          refine zg_cV1 (As := [.inl (N 5 x1.toNatClampNeg), .inl (v3 - v3 / 2 * 2)]) (S := []) (v := bI ((f_X5_isGood (N 5 x1.toNatClampNeg) (v3 - v3 / 2 * 2) N))) dX5_readOn_41 zk_X5_82 (k_X5_isGood q (N 5 x1.toNatClampNeg) (v3 - v3 / 2 * 2) N (by first | with_reducible exact zPl_at hI.1.1 hx1 (z_mod2 hI.2.1) | with_reducible exact zPl_at hI.1.2 hx1 (z_mod2 hI.2.1))) rfl rfl ⟨by decide, by decide⟩ ⟨by decide, by decide⟩ rfl (Nat.le_of_ble_eq_true rfl) ?_
          refine zg_st (pc' := 44) (L' := [some (.inr 0), some (.inl x1), some (.inl (bI v2)), some (.inl v3), some (.inl (N 5 x1.toNatClampNeg))]) (S' := [.inl (bI ((f_X5_isGood (N 5 x1.toNatClampNeg) (v3 - v3 / 2 * 2) N)))]) (M' := N) rfl rfl rfl rfl ?_
          refine zg_istore_n dX5_readOn_44 (by decide) ?_
          refine zg_st (pc' := 45) (L' := [some (.inr 0), some (.inl x1), some (.inl (bI ((f_X5_isGood (N 5 x1.toNatClampNeg) (v3 - v3 / 2 * 2) N)))), some (.inl v3), some (.inl (N 5 x1.toNatClampNeg))]) (S' := []) (M' := N) rfl rfl rfl rfl ?_
          refine zg_aload_n (x := 0) dX5_readOn_45 rfl ?_
          refine zg_dup dX5_readOn_46 ?_
          refine zg_getf (v := .inl (N 0 2)) dX5_readOn_47 zf_X5_85 rfl rfl rfl ?_
          refine zg_iload_n (x := bI ((f_X5_isGood (N 5 x1.toNatClampNeg) (v3 - v3 / 2 * 2) N))) dX5_readOn_50 rfl ?_
          refine zg_ifbe (tgt := 58) dX5_readOn_51 rfl (fun c51 => ?_) (fun c51 => ?_)
          · refine zg_st (pc' := 54) (L' := [some (.inr 0), some (.inl x1), some (.inl (bI ((f_X5_isGood (N 5 x1.toNatClampNeg) (v3 - v3 / 2 * 2) N)))), some (.inl v3), some (.inl (N 5 x1.toNatClampNeg))]) (S' := [.inl (N 0 2), .inr 0]) (M' := N) rfl rfl rfl rfl ?_
            refine zg_iconst (v := 0) dX5_readOn_54 rfl ?_
            refine zg_goto (tgt := 67) dX5_readOn_55 rfl ?_
            refine zg_st (pc' := 67) (L' := [some (.inr 0), some (.inl x1), some (.inl (bI ((f_X5_isGood (N 5 x1.toNatClampNeg) (v3 - v3 / 2 * 2) N)))), some (.inl v3), some (.inl (N 5 x1.toNatClampNeg))]) (S' := [.inl 0, .inl (N 0 2), .inr 0]) (M' := N) rfl rfl rfl rfl ?_
            refine zg_iadd dX5_readOn_67 ?_
            refine zg_putf dX5_readOn_68 zp_X5_85 rfl rfl ?_
            refine zg_iinc (v := (v3 + 1)) dX5_readOn_71 rfl (by decide) rfl ?_
            refine zg_st (pc' := 74) (L' := [some (.inr 0), some (.inl x1), some (.inl (bI ((f_X5_isGood (N 5 x1.toNatClampNeg) (v3 - v3 / 2 * 2) N)))), some (.inl (v3 + 1)), some (.inl (N 5 x1.toNatClampNeg))]) (S' := []) (M' := (mup N 0 2 ((N 0 2) + 0))) rfl rfl rfl rfl ?_
            refine zg_goto (tgt := 4) dX5_readOn_74 rfl ?_
            refine zg_st (pc' := 4) (L' := [some (.inr 0), some (.inl x1), some (.inl (bI ((f_X5_isGood (N 5 x1.toNatClampNeg) (v3 - v3 / 2 * 2) N)))), some (.inl (v3 + 1)), some (.inl (N 5 x1.toNatClampNeg))]) (S' := []) (M' := (mup N 0 2 ((N 0 2) + 0))) rfl rfl rfl rfl ?_
            refine zg_drop (L' := [some (.inr 0), some (.inl x1), some (.inl (bI ((f_X5_isGood (N 5 x1.toNatClampNeg) (v3 - v3 / 2 * 2) N)))), some (.inl (v3 + 1)), none]) ⟨rfl, rfl, rfl, rfl, trivial⟩ ?_
            exact ih (f_X5_isGood (N 5 x1.toNatClampNeg) (v3 - v3 / 2 * 2) N) (v3 + 1) (mup N 0 2 ((N 0 2) + 0)) ⟨(by first | with_reducible exact PlM_up (by decide) (by decide) hI.1 | (subst_vars; exact PlM_up (by decide) (by decide) (sp_heal hI.1))), z_inv c6 (by decide) hI.2.1⟩ (z_up c6 hm)
          · refine zg_st (pc' := 58) (L' := [some (.inr 0), some (.inl x1), some (.inl (bI ((f_X5_isGood (N 5 x1.toNatClampNeg) (v3 - v3 / 2 * 2) N)))), some (.inl v3), some (.inl (N 5 x1.toNatClampNeg))]) (S' := [.inl (N 0 2), .inr 0]) (M' := N) rfl rfl rfl rfl ?_
            refine zg_aload_n (x := 0) dX5_readOn_58 rfl ?_
            refine zg_iload (x := (N 5 x1.toNatClampNeg)) dX5_readOn_59 rfl ?_
            refine zg_iload_n (x := v3) dX5_readOn_61 rfl ?_
            refine zg_iconst (v := 2) dX5_readOn_62 rfl ?_
            refine zg_irem dX5_readOn_63 (by decide) ?_
            refine zg_cVIM (As := [.inl (N 5 x1.toNatClampNeg), .inl (v3 - v3 / 2 * 2)]) (S := [.inl (N 0 2), .inr 0]) dX5_readOn_64 zk_X5_88 (k_X5_heal q (N 5 x1.toNatClampNeg) (v3 - v3 / 2 * 2) N (by first | with_reducible exact zPl_at hI.1.1 hx1 (z_mod2 hI.2.1) | with_reducible exact zPl_at hI.1.2 hx1 (z_mod2 hI.2.1))) rfl rfl ⟨by decide, by decide⟩ ⟨by decide, by decide⟩ rfl (Nat.le_of_ble_eq_true rfl) (fun q1 e_q1 => ?_)
            try dsimp only
            refine zg_st (pc' := 67) (L' := [some (.inr 0), some (.inl x1), some (.inl (bI ((f_X5_isGood (N 5 x1.toNatClampNeg) (v3 - v3 / 2 * 2) N)))), some (.inl v3), some (.inl (N 5 x1.toNatClampNeg))]) (S' := [.inl q1.1, .inl (N 0 2), .inr 0]) (M' := q1.2) rfl rfl rfl rfl ?_
            refine zg_iadd dX5_readOn_67 ?_
            refine zg_putf dX5_readOn_68 zp_X5_85 rfl rfl ?_
            refine zg_iinc (v := (v3 + 1)) dX5_readOn_71 rfl (by decide) rfl ?_
            refine zg_st (pc' := 74) (L' := [some (.inr 0), some (.inl x1), some (.inl (bI ((f_X5_isGood (N 5 x1.toNatClampNeg) (v3 - v3 / 2 * 2) N)))), some (.inl (v3 + 1)), some (.inl (N 5 x1.toNatClampNeg))]) (S' := []) (M' := (mup q1.2 0 2 ((N 0 2) + q1.1))) rfl rfl rfl rfl ?_
            refine zg_goto (tgt := 4) dX5_readOn_74 rfl ?_
            refine zg_st (pc' := 4) (L' := [some (.inr 0), some (.inl x1), some (.inl (bI ((f_X5_isGood (N 5 x1.toNatClampNeg) (v3 - v3 / 2 * 2) N)))), some (.inl (v3 + 1)), some (.inl (N 5 x1.toNatClampNeg))]) (S' := []) (M' := (mup q1.2 0 2 ((N 0 2) + q1.1))) rfl rfl rfl rfl ?_
            refine zg_drop (L' := [some (.inr 0), some (.inl x1), some (.inl (bI ((f_X5_isGood (N 5 x1.toNatClampNeg) (v3 - v3 / 2 * 2) N)))), some (.inl (v3 + 1)), none]) ⟨rfl, rfl, rfl, rfl, trivial⟩ ?_
            exact ih (f_X5_isGood (N 5 x1.toNatClampNeg) (v3 - v3 / 2 * 2) N) (v3 + 1) (mup q1.2 0 2 ((N 0 2) + q1.1)) ⟨(by first | with_reducible exact PlM_up (by decide) (by decide) hI.1 | (subst_vars; exact PlM_up (by decide) (by decide) (sp_heal hI.1))), z_inv c6 (by decide) hI.2.1⟩ (z_up c6 hm)
        · refine zg_st (pc' := 18) (L' := [some (.inr 0), some (.inl x1), some (.inl (bI v2)), some (.inl v3), none]) (S' := []) (M' := N) rfl rfl rfl rfl ?_
          refine zg_aload_n (x := 0) dX5_readOn_18 rfl ?_
          refine zg_getf (v := .inr 4) dX5_readOn_19 zf_X5_23 rfl rfl rfl ?_
          refine zg_iload_n (x := x1) dX5_readOn_22 rfl ?_
          refine zg_iald dX5_readOn_23 rfl hx1 ?_
          refine zg_goto (tgt := 33) dX5_readOn_24 rfl ?_
          refine zg_st (pc' := 33) (L' := [some (.inr 0), some (.inl x1), some (.inl (bI v2)), some (.inl v3), none]) (S' := [.inl (N 4 x1.toNatClampNeg)]) (M' := N) rfl rfl rfl rfl ?_
          refine zg_istore dX5_readOn_33 (by decide) ?_
          refine zg_st (pc' := 35) (L' := [some (.inr 0), some (.inl x1), some (.inl (bI v2)), some (.inl v3), some (.inl (N 4 x1.toNatClampNeg))]) (S' := []) (M' := N) rfl rfl rfl rfl ?_
          refine zg_aload_n (x := 0) dX5_readOn_35 rfl ?_
          refine zg_iload (x := (N 4 x1.toNatClampNeg)) dX5_readOn_36 rfl ?_
          refine zg_iload_n (x := v3) dX5_readOn_38 rfl ?_
          refine zg_iconst (v := 2) dX5_readOn_39 rfl ?_
          refine zg_irem dX5_readOn_40 (by decide) ?_
          refine zg_cV1 (As := [.inl (N 4 x1.toNatClampNeg), .inl (v3 - v3 / 2 * 2)]) (S := []) (v := bI ((f_X5_isGood (N 4 x1.toNatClampNeg) (v3 - v3 / 2 * 2) N))) dX5_readOn_41 zk_X5_82 (k_X5_isGood q (N 4 x1.toNatClampNeg) (v3 - v3 / 2 * 2) N (by first | with_reducible exact zPl_at hI.1.1 hx1 (z_mod2 hI.2.1) | with_reducible exact zPl_at hI.1.2 hx1 (z_mod2 hI.2.1))) rfl rfl ⟨by decide, by decide⟩ ⟨by decide, by decide⟩ rfl (Nat.le_of_ble_eq_true rfl) ?_
          refine zg_st (pc' := 44) (L' := [some (.inr 0), some (.inl x1), some (.inl (bI v2)), some (.inl v3), some (.inl (N 4 x1.toNatClampNeg))]) (S' := [.inl (bI ((f_X5_isGood (N 4 x1.toNatClampNeg) (v3 - v3 / 2 * 2) N)))]) (M' := N) rfl rfl rfl rfl ?_
          refine zg_istore_n dX5_readOn_44 (by decide) ?_
          refine zg_st (pc' := 45) (L' := [some (.inr 0), some (.inl x1), some (.inl (bI ((f_X5_isGood (N 4 x1.toNatClampNeg) (v3 - v3 / 2 * 2) N)))), some (.inl v3), some (.inl (N 4 x1.toNatClampNeg))]) (S' := []) (M' := N) rfl rfl rfl rfl ?_
          refine zg_aload_n (x := 0) dX5_readOn_45 rfl ?_
          refine zg_dup dX5_readOn_46 ?_
          refine zg_getf (v := .inl (N 0 2)) dX5_readOn_47 zf_X5_85 rfl rfl rfl ?_
          refine zg_iload_n (x := bI ((f_X5_isGood (N 4 x1.toNatClampNeg) (v3 - v3 / 2 * 2) N))) dX5_readOn_50 rfl ?_
          refine zg_ifbe (tgt := 58) dX5_readOn_51 rfl (fun c51 => ?_) (fun c51 => ?_)
          · refine zg_st (pc' := 54) (L' := [some (.inr 0), some (.inl x1), some (.inl (bI ((f_X5_isGood (N 4 x1.toNatClampNeg) (v3 - v3 / 2 * 2) N)))), some (.inl v3), some (.inl (N 4 x1.toNatClampNeg))]) (S' := [.inl (N 0 2), .inr 0]) (M' := N) rfl rfl rfl rfl ?_
            refine zg_iconst (v := 0) dX5_readOn_54 rfl ?_
            refine zg_goto (tgt := 67) dX5_readOn_55 rfl ?_
            refine zg_st (pc' := 67) (L' := [some (.inr 0), some (.inl x1), some (.inl (bI ((f_X5_isGood (N 4 x1.toNatClampNeg) (v3 - v3 / 2 * 2) N)))), some (.inl v3), some (.inl (N 4 x1.toNatClampNeg))]) (S' := [.inl 0, .inl (N 0 2), .inr 0]) (M' := N) rfl rfl rfl rfl ?_
            refine zg_iadd dX5_readOn_67 ?_
            refine zg_putf dX5_readOn_68 zp_X5_85 rfl rfl ?_
            refine zg_iinc (v := (v3 + 1)) dX5_readOn_71 rfl (by decide) rfl ?_
            refine zg_st (pc' := 74) (L' := [some (.inr 0), some (.inl x1), some (.inl (bI ((f_X5_isGood (N 4 x1.toNatClampNeg) (v3 - v3 / 2 * 2) N)))), some (.inl (v3 + 1)), some (.inl (N 4 x1.toNatClampNeg))]) (S' := []) (M' := (mup N 0 2 ((N 0 2) + 0))) rfl rfl rfl rfl ?_
            refine zg_goto (tgt := 4) dX5_readOn_74 rfl ?_
            refine zg_st (pc' := 4) (L' := [some (.inr 0), some (.inl x1), some (.inl (bI ((f_X5_isGood (N 4 x1.toNatClampNeg) (v3 - v3 / 2 * 2) N)))), some (.inl (v3 + 1)), some (.inl (N 4 x1.toNatClampNeg))]) (S' := []) (M' := (mup N 0 2 ((N 0 2) + 0))) rfl rfl rfl rfl ?_
            refine zg_drop (L' := [some (.inr 0), some (.inl x1), some (.inl (bI ((f_X5_isGood (N 4 x1.toNatClampNeg) (v3 - v3 / 2 * 2) N)))), some (.inl (v3 + 1)), none]) ⟨rfl, rfl, rfl, rfl, trivial⟩ ?_
            exact ih (f_X5_isGood (N 4 x1.toNatClampNeg) (v3 - v3 / 2 * 2) N) (v3 + 1) (mup N 0 2 ((N 0 2) + 0)) ⟨(by first | with_reducible exact PlM_up (by decide) (by decide) hI.1 | (subst_vars; exact PlM_up (by decide) (by decide) (sp_heal hI.1))), z_inv c6 (by decide) hI.2.1⟩ (z_up c6 hm)
          · refine zg_st (pc' := 58) (L' := [some (.inr 0), some (.inl x1), some (.inl (bI ((f_X5_isGood (N 4 x1.toNatClampNeg) (v3 - v3 / 2 * 2) N)))), some (.inl v3), some (.inl (N 4 x1.toNatClampNeg))]) (S' := [.inl (N 0 2), .inr 0]) (M' := N) rfl rfl rfl rfl ?_
            refine zg_aload_n (x := 0) dX5_readOn_58 rfl ?_
            refine zg_iload (x := (N 4 x1.toNatClampNeg)) dX5_readOn_59 rfl ?_
            refine zg_iload_n (x := v3) dX5_readOn_61 rfl ?_
            refine zg_iconst (v := 2) dX5_readOn_62 rfl ?_
            refine zg_irem dX5_readOn_63 (by decide) ?_
            refine zg_cVIM (As := [.inl (N 4 x1.toNatClampNeg), .inl (v3 - v3 / 2 * 2)]) (S := [.inl (N 0 2), .inr 0]) dX5_readOn_64 zk_X5_88 (k_X5_heal q (N 4 x1.toNatClampNeg) (v3 - v3 / 2 * 2) N (by first | with_reducible exact zPl_at hI.1.1 hx1 (z_mod2 hI.2.1) | with_reducible exact zPl_at hI.1.2 hx1 (z_mod2 hI.2.1))) rfl rfl ⟨by decide, by decide⟩ ⟨by decide, by decide⟩ rfl (Nat.le_of_ble_eq_true rfl) (fun q2 e_q2 => ?_)
            try dsimp only
            refine zg_st (pc' := 67) (L' := [some (.inr 0), some (.inl x1), some (.inl (bI ((f_X5_isGood (N 4 x1.toNatClampNeg) (v3 - v3 / 2 * 2) N)))), some (.inl v3), some (.inl (N 4 x1.toNatClampNeg))]) (S' := [.inl q2.1, .inl (N 0 2), .inr 0]) (M' := q2.2) rfl rfl rfl rfl ?_
            refine zg_iadd dX5_readOn_67 ?_
            refine zg_putf dX5_readOn_68 zp_X5_85 rfl rfl ?_
            refine zg_iinc (v := (v3 + 1)) dX5_readOn_71 rfl (by decide) rfl ?_
            refine zg_st (pc' := 74) (L' := [some (.inr 0), some (.inl x1), some (.inl (bI ((f_X5_isGood (N 4 x1.toNatClampNeg) (v3 - v3 / 2 * 2) N)))), some (.inl (v3 + 1)), some (.inl (N 4 x1.toNatClampNeg))]) (S' := []) (M' := (mup q2.2 0 2 ((N 0 2) + q2.1))) rfl rfl rfl rfl ?_
            refine zg_goto (tgt := 4) dX5_readOn_74 rfl ?_
            refine zg_st (pc' := 4) (L' := [some (.inr 0), some (.inl x1), some (.inl (bI ((f_X5_isGood (N 4 x1.toNatClampNeg) (v3 - v3 / 2 * 2) N)))), some (.inl (v3 + 1)), some (.inl (N 4 x1.toNatClampNeg))]) (S' := []) (M' := (mup q2.2 0 2 ((N 0 2) + q2.1))) rfl rfl rfl rfl ?_
            refine zg_drop (L' := [some (.inr 0), some (.inl x1), some (.inl (bI ((f_X5_isGood (N 4 x1.toNatClampNeg) (v3 - v3 / 2 * 2) N)))), some (.inl (v3 + 1)), none]) ⟨rfl, rfl, rfl, rfl, trivial⟩ ?_
            exact ih (f_X5_isGood (N 4 x1.toNatClampNeg) (v3 - v3 / 2 * 2) N) (v3 + 1) (mup q2.2 0 2 ((N 0 2) + q2.1)) ⟨(by first | with_reducible exact PlM_up (by decide) (by decide) hI.1 | (subst_vars; exact PlM_up (by decide) (by decide) (sp_heal hI.1))), z_inv c6 (by decide) hI.2.1⟩ (z_up c6 hm)
def f_X5_readOn (p1 : Int32) (M : Mem) : Mem :=
  zlet (l_X5_readOn_4 p1 5 false 0 M) (fun s3 =>
  s3.2.2)
set_option maxRecDepth 100000 in
set_option maxHeartbeats 4000000 in
theorem k_X5_readOn (q : ZQ) (p1 : Int32) (M : Mem) (hp : vp_in p1 53 ∧ PlM M) : Zc (zgM q) mX5_readOn 0 0 [.inr 0, .inl p1] M (wV (f_X5_readOn p1 M)) := by
  refine Zc.of (by decide) zi_X5_readOn.1 (Nat.le_of_ble_eq_true rfl) rfl ?_
  show Zg _ _ _ _ _ _ (zlet (f_X5_readOn p1 M) wV) _ _ _ _
  unfold f_X5_readOn
  refine zg_iconst (v := 0) dX5_readOn_0 rfl ?_
  refine zg_istore_n dX5_readOn_1 (by decide) ?_
  refine zg_st (pc' := 2) (L' := [some (.inr 0), some (.inl p1), some (.inl 0), none, none]) (S' := []) (M' := M) rfl rfl rfl rfl ?_
  refine zg_iconst (v := 0) dX5_readOn_2 rfl ?_
  refine zg_istore_n dX5_readOn_3 (by decide) ?_
  refine zg_st (pc' := 4) (L' := [some (.inr 0), some (.inl p1), some (.inl 0), some (.inl 0), none]) (S' := []) (M' := M) rfl rfl rfl rfl ?_
  refine zg_asc ?_
  refine zg_drop (L' := [some (.inr 0), some (.inl p1), some (.inl 0), some (.inl 0), none]) ⟨rfl, rfl, rfl, rfl, trivial⟩ ?_
  refine kl_X5_readOn_4 q p1  hp.1 (fun s3 hI_s3 => ?_) 5 false 0 M ⟨hp.2, by decide⟩ (by decide)
  try dsimp only [Sum.elim_inr]
  refine zg_st (pc' := 77) (L' := [some (.inr 0), some (.inl p1), some (.inl (bI s3.1)), some (.inl s3.2.1), none]) (S' := []) (M' := s3.2.2) rfl rfl rfl rfl ?_
  exact zg_vret dX5_readOn_77 rfl ⟨by decide, by decide⟩ rfl
theorem dX5_readIfThere_0 : decode cX5_readIfThere 0 = .ok (.aload_n 0, 1) := by decide +kernel
theorem dX5_readIfThere_1 : decode cX5_readIfThere 1 = .ok (.iload_n 1, 1) := by decide +kernel
theorem dX5_readIfThere_2 : decode cX5_readIfThere 2 = .ok (.invokevirtual 92, 3) := by decide +kernel
theorem dX5_readIfThere_5 : decode cX5_readIfThere 5 = .ok (.ifCond .eq 8, 3) := by decide +kernel
theorem dX5_readIfThere_8 : decode cX5_readIfThere 8 = .ok (.aload_n 0, 1) := by decide +kernel
theorem dX5_readIfThere_9 : decode cX5_readIfThere 9 = .ok (.iload_n 1, 1) := by decide +kernel
theorem dX5_readIfThere_10 : decode cX5_readIfThere 10 = .ok (.invokevirtual 105, 3) := by decide +kernel
theorem dX5_readIfThere_13 : decode cX5_readIfThere 13 = .ok (.return_, 1) := by decide +kernel
def f_X5_readIfThere (p1 : Int32) (M : Mem) : Mem :=
  if (f_X5_isThere p1 M) then zlet (f_X5_readOn p1 M) (fun N1 =>
    N1)
  else M
set_option maxRecDepth 100000 in
set_option maxHeartbeats 4000000 in
theorem k_X5_readIfThere (q : ZQ) (p1 : Int32) (M : Mem) (hp : vp_in p1 53 ∧ PlM M) : Zc (zgM q) mX5_readIfThere 0 0 [.inr 0, .inl p1] M (wV (f_X5_readIfThere p1 M)) := by
  refine Zc.of (by decide) zi_X5_readIfThere.1 (Nat.le_of_ble_eq_true rfl) rfl ?_
  show Zg _ _ _ _ _ _ (zlet (f_X5_readIfThere p1 M) wV) _ _ _ _
  unfold f_X5_readIfThere
  refine zg_aload_n (x := 0) dX5_readIfThere_0 rfl ?_
  refine zg_iload_n (x := p1) dX5_readIfThere_1 rfl ?_
  refine zg_cV1 (As := [.inl p1]) (S := []) (v := bI ((f_X5_isThere p1 M))) dX5_readIfThere_2 zk_X5_92 (k_X5_isThere q p1 M hp.1) rfl rfl ⟨by decide, by decide⟩ ⟨by decide, by decide⟩ rfl (Nat.le_of_ble_eq_true rfl) ?_
  refine zg_st (pc' := 5) (L' := [some (.inr 0), some (.inl p1)]) (S' := [.inl (bI ((f_X5_isThere p1 M)))]) (M' := M) rfl rfl rfl rfl ?_
  refine zg_ifbe (tgt := 13) dX5_readIfThere_5 rfl (fun c5 => ?_) (fun c5 => ?_)
  · refine zg_st (pc' := 8) (L' := [some (.inr 0), some (.inl p1)]) (S' := []) (M' := M) rfl rfl rfl rfl ?_
    refine zg_aload_n (x := 0) dX5_readIfThere_8 rfl ?_
    refine zg_iload_n (x := p1) dX5_readIfThere_9 rfl ?_
    refine zg_cVV (As := [.inl p1]) (S := []) dX5_readIfThere_10 zk_X5_105 (k_X5_readOn q p1 M hp) rfl rfl ⟨by decide, by decide⟩ ⟨by decide, by decide⟩ rfl (Nat.le_of_ble_eq_true rfl) (fun N1 e_N1 => ?_)
    try dsimp only
    refine zg_st (pc' := 13) (L' := [some (.inr 0), some (.inl p1)]) (S' := []) (M' := N1) rfl rfl rfl rfl ?_
    exact zg_vret dX5_readIfThere_13 rfl ⟨by decide, by decide⟩ rfl
  · refine zg_st (pc' := 13) (L' := [some (.inr 0), some (.inl p1)]) (S' := []) (M' := M) rfl rfl rfl rfl ?_
    exact zg_vret dX5_readIfThere_13 rfl ⟨by decide, by decide⟩ rfl
theorem dX5_nextData_0 : decode cX5_nextData 0 = .ok (.iconst (-1), 1) := by decide +kernel
theorem dX5_nextData_1 : decode cX5_nextData 1 = .ok (.istore_n 3, 1) := by decide +kernel
theorem dX5_nextData_2 : decode cX5_nextData 2 = .ok (.iload_n 1, 1) := by decide +kernel
theorem dX5_nextData_3 : decode cX5_nextData 3 = .ok (.iload_n 2, 1) := by decide +kernel
theorem dX5_nextData_4 : decode cX5_nextData 4 = .ok (.invokestatic 70, 3) := by decide +kernel
theorem dX5_nextData_7 : decode cX5_nextData 7 = .ok (.istore 4, 2) := by decide +kernel
theorem dX5_nextData_9 : decode cX5_nextData 9 = .ok (.bipush 11, 2) := by decide +kernel
theorem dX5_nextData_11 : decode cX5_nextData 11 = .ok (.istore 5, 2) := by decide +kernel
theorem dX5_nextData_13 : decode cX5_nextData 13 = .ok (.iload 4, 2) := by decide +kernel
theorem dX5_nextData_15 : decode cX5_nextData 15 = .ok (.ifCond .eq 36, 3) := by decide +kernel
theorem dX5_nextData_18 : decode cX5_nextData 18 = .ok (.iload 5, 2) := by decide +kernel
theorem dX5_nextData_20 : decode cX5_nextData 20 = .ok (.iload_n 2, 1) := by decide +kernel
theorem dX5_nextData_21 : decode cX5_nextData 21 = .ok (.if_icmp .lt 30, 3) := by decide +kernel
theorem dX5_nextData_24 : decode cX5_nextData 24 = .ok (.aload_n 0, 1) := by decide +kernel
theorem dX5_nextData_25 : decode cX5_nextData 25 = .ok (.bipush 12, 2) := by decide +kernel
theorem dX5_nextData_27 : decode cX5_nextData 27 = .ok (.iload_n 1, 1) := by decide +kernel
theorem dX5_nextData_28 : decode cX5_nextData 28 = .ok (.imul, 1) := by decide +kernel
theorem dX5_nextData_29 : decode cX5_nextData 29 = .ok (.iload 5, 2) := by decide +kernel
theorem dX5_nextData_31 : decode cX5_nextData 31 = .ok (.iadd, 1) := by decide +kernel
theorem dX5_nextData_32 : decode cX5_nextData 32 = .ok (.invokevirtual 78, 3) := by decide +kernel
theorem dX5_nextData_35 : decode cX5_nextData 35 = .ok (.ifCond .ne 7, 3) := by decide +kernel
theorem dX5_nextData_38 : decode cX5_nextData 38 = .ok (.iload_n 3, 1) := by decide +kernel
theorem dX5_nextData_39 : decode cX5_nextData 39 = .ok (.goto 5, 3) := by decide +kernel
theorem dX5_nextData_42 : decode cX5_nextData 42 = .ok (.iload 5, 2) := by decide +kernel
theorem dX5_nextData_44 : decode cX5_nextData 44 = .ok (.istore_n 3, 1) := by decide +kernel
theorem dX5_nextData_45 : decode cX5_nextData 45 = .ok (.iinc 5 (-1), 3) := by decide +kernel
theorem dX5_nextData_48 : decode cX5_nextData 48 = .ok (.goto (-35), 3) := by decide +kernel
theorem dX5_nextData_51 : decode cX5_nextData 51 = .ok (.aload_n 0, 1) := by decide +kernel
theorem dX5_nextData_52 : decode cX5_nextData 52 = .ok (.iload 4, 2) := by decide +kernel
theorem dX5_nextData_54 : decode cX5_nextData 54 = .ok (.ifCond .ne 7, 3) := by decide +kernel
theorem dX5_nextData_57 : decode cX5_nextData 57 = .ok (.iconst 1, 1) := by decide +kernel
theorem dX5_nextData_58 : decode cX5_nextData 58 = .ok (.goto 13, 3) := by decide +kernel
theorem dX5_nextData_61 : decode cX5_nextData 61 = .ok (.iload_n 3, 1) := by decide +kernel
theorem dX5_nextData_62 : decode cX5_nextData 62 = .ok (.iconst (-1), 1) := by decide +kernel
theorem dX5_nextData_63 : decode cX5_nextData 63 = .ok (.if_icmp .ne 7, 3) := by decide +kernel
theorem dX5_nextData_66 : decode cX5_nextData 66 = .ok (.iconst 2, 1) := by decide +kernel
theorem dX5_nextData_67 : decode cX5_nextData 67 = .ok (.goto 4, 3) := by decide +kernel
theorem dX5_nextData_70 : decode cX5_nextData 70 = .ok (.iconst 0, 1) := by decide +kernel
theorem dX5_nextData_71 : decode cX5_nextData 71 = .ok (.invokevirtual 74, 3) := by decide +kernel
theorem dX5_nextData_74 : decode cX5_nextData 74 = .ok (.ifCond .eq 7, 3) := by decide +kernel
theorem dX5_nextData_77 : decode cX5_nextData 77 = .ok (.iconst 0, 1) := by decide +kernel
theorem dX5_nextData_78 : decode cX5_nextData 78 = .ok (.goto 4, 3) := by decide +kernel
theorem dX5_nextData_81 : decode cX5_nextData 81 = .ok (.iload_n 3, 1) := by decide +kernel
theorem dX5_nextData_82 : decode cX5_nextData 82 = .ok (.ireturn, 1) := by decide +kernel
def b_X5_nextData_13 (x1 : Int32) (x2 : Int32) (x4 : Bool) (M : Mem) (rec : Int32 → Int32 → Int32 × Int32) (v3 : Int32) (v5 : Int32) : Int32 × Int32 :=
  if x4 then if v5 < x2 then (v3, v5)
    else if ¬ (f_X5_now ((12 * x1) + v5) M) = 0 then rec v5 (v5 + (-1))
    else rec v3 (v5 + (-1))
  else (v3, v5)
def l_X5_nextData_13 (x1 : Int32) (x2 : Int32) (x4 : Bool) (M : Mem) : Nat → Int32 → Int32 → Int32 × Int32
  | 0, v3, v5 => (v3, v5)
  | n + 1, v3, v5 => b_X5_nextData_13 x1 x2 x4 M (l_X5_nextData_13 x1 x2 x4 M n) v3 v5
set_option maxRecDepth 100000 in
set_option maxHeartbeats 4000000 in
theorem kl_X5_nextData_13 (q : ZQ) (x1 : Int32) (x2 : Int32) (x4 : Bool) (M : Mem) (hy : x4 = true → (0 ≤ x1.toInt ∧ x1.toInt < 4) ∧ 0 ≤ x2.toInt ∧ x2.toInt < 12) {K : Int32 × Int32 → ZR} (hx : ∀ e : Int32 × Int32, e.2.toInt ≤ 11 → Zg (zgM q) mX5_nextData 0 0 0 0 (K e) 51 [some (.inr 0), some (.inl x1), some (.inl x2), some (.inl e.1), some (.inl (bI x4)), some (.inl e.2)] [] M) :
    ∀ (n : Nat) (v3 : Int32) (v5 : Int32), v5.toInt ≤ 11 → ((v5 : Int32).toInt + 1 - (x2 : Int32).toInt).toNat < n → Zg (zgM q) mX5_nextData 0 0 0 0 (zlet (l_X5_nextData_13 x1 x2 x4 M n v3 v5) K) 13 [some (.inr 0), some (.inl x1), some (.inl x2), some (.inl v3), some (.inl (bI x4)), some (.inl v5)] [] M := by
  intro n
  induction n with
  | zero => intro v3 v5 hI hm; exact absurd hm (Nat.not_lt_zero _)
  | succ n ih =>
    intro v3 v5 hI hm
    show Zg _ _ _ _ _ _ (zlet (b_X5_nextData_13 x1 x2 x4 M (l_X5_nextData_13 x1 x2 x4 M n) v3 v5) K) _ _ _ _
    unfold b_X5_nextData_13
    refine zg_iload (x := bI x4) dX5_nextData_13 rfl ?_
    refine zg_ifbe (tgt := 51) dX5_nextData_15 rfl (fun c15 => ?_) (fun c15 => ?_)
    · refine zg_st (pc' := 18) (L' := [some (.inr 0), some (.inl x1), some (.inl x2), some (.inl v3), some (.inl (bI x4)), some (.inl v5)]) (S' := []) (M' := M) rfl rfl rfl rfl ?_
      refine zg_iload (x := v5) dX5_nextData_18 rfl ?_
      refine zg_iload_n (x := x2) dX5_nextData_20 rfl ?_
      refine zg_icmpz (tgt := 51) dX5_nextData_21 rfl rfl (fun c21 => ?_) (fun c21 => ?_)
      · refine zg_st (pc' := 51) (L' := [some (.inr 0), some (.inl x1), some (.inl x2), some (.inl v3), some (.inl (bI x4)), some (.inl v5)]) (S' := []) (M' := M) rfl rfl rfl rfl ?_
        refine zg_drop (L' := [some (.inr 0), some (.inl x1), some (.inl x2), some (.inl v3), some (.inl (bI x4)), some (.inl v5)]) ⟨rfl, rfl, rfl, rfl, rfl, rfl, trivial⟩ ?_
        exact hx (v3, v5) hI
      · refine zg_st (pc' := 24) (L' := [some (.inr 0), some (.inl x1), some (.inl x2), some (.inl v3), some (.inl (bI x4)), some (.inl v5)]) (S' := []) (M' := M) rfl rfl rfl rfl ?_
        refine zg_aload_n (x := 0) dX5_nextData_24 rfl ?_
        refine zg_bipush (v := 12) dX5_nextData_25 rfl ?_
        refine zg_iload_n (x := x1) dX5_nextData_27 rfl ?_
        refine zg_imul dX5_nextData_28 ?_
        refine zg_iload (x := v5) dX5_nextData_29 rfl ?_
        refine zg_iadd dX5_nextData_31 ?_
        refine zg_cV1 (As := [.inl ((12 * x1) + v5)]) (S := []) (v := (f_X5_now ((12 * x1) + v5) M)) dX5_nextData_32 zk_X5_78 (k_X5_now q ((12 * x1) + v5) M (z_nd (hy c15) c21 hI)) rfl rfl ⟨by decide, by decide⟩ ⟨by decide, by decide⟩ rfl (Nat.le_of_ble_eq_true rfl) ?_
        refine zg_st (pc' := 35) (L' := [some (.inr 0), some (.inl x1), some (.inl x2), some (.inl v3), some (.inl (bI x4)), some (.inl v5)]) (S' := [.inl (f_X5_now ((12 * x1) + v5) M)]) (M' := M) rfl rfl rfl rfl ?_
        refine zg_ifz (tgt := 42) dX5_nextData_35 rfl rfl (fun c35 => ?_) (fun c35 => ?_)
        · refine zg_st (pc' := 42) (L' := [some (.inr 0), some (.inl x1), some (.inl x2), some (.inl v3), some (.inl (bI x4)), some (.inl v5)]) (S' := []) (M' := M) rfl rfl rfl rfl ?_
          refine zg_iload (x := v5) dX5_nextData_42 rfl ?_
          refine zg_istore_n dX5_nextData_44 (by decide) ?_
          refine zg_st (pc' := 45) (L' := [some (.inr 0), some (.inl x1), some (.inl x2), some (.inl v5), some (.inl (bI x4)), some (.inl v5)]) (S' := []) (M' := M) rfl rfl rfl rfl ?_
          refine zg_iinc (v := (v5 + (-1))) dX5_nextData_45 rfl (by decide) rfl ?_
          refine zg_st (pc' := 48) (L' := [some (.inr 0), some (.inl x1), some (.inl x2), some (.inl v5), some (.inl (bI x4)), some (.inl (v5 + (-1)))]) (S' := []) (M' := M) rfl rfl rfl rfl ?_
          refine zg_goto (tgt := 13) dX5_nextData_48 rfl ?_
          refine zg_st (pc' := 13) (L' := [some (.inr 0), some (.inl x1), some (.inl x2), some (.inl v5), some (.inl (bI x4)), some (.inl (v5 + (-1)))]) (S' := []) (M' := M) rfl rfl rfl rfl ?_
          refine zg_drop (L' := [some (.inr 0), some (.inl x1), some (.inl x2), some (.inl v5), some (.inl (bI x4)), some (.inl (v5 + (-1)))]) ⟨rfl, rfl, rfl, rfl, rfl, rfl, trivial⟩ ?_
          exact ih v5 (v5 + (-1)) (z_dns c21 (z_hx (hy c15)) hI) (z_dn c21 (z_hx (hy c15)) hm)
        · refine zg_st (pc' := 38) (L' := [some (.inr 0), some (.inl x1), some (.inl x2), some (.inl v3), some (.inl (bI x4)), some (.inl v5)]) (S' := []) (M' := M) rfl rfl rfl rfl ?_
          refine zg_iload_n (x := v3) dX5_nextData_38 rfl ?_
          refine zg_goto (tgt := 44) dX5_nextData_39 rfl ?_
          refine zg_st (pc' := 44) (L' := [some (.inr 0), some (.inl x1), some (.inl x2), some (.inl v3), some (.inl (bI x4)), some (.inl v5)]) (S' := [.inl v3]) (M' := M) rfl rfl rfl rfl ?_
          refine zg_istore_n dX5_nextData_44 (by decide) ?_
          refine zg_st (pc' := 45) (L' := [some (.inr 0), some (.inl x1), some (.inl x2), some (.inl v3), some (.inl (bI x4)), some (.inl v5)]) (S' := []) (M' := M) rfl rfl rfl rfl ?_
          refine zg_iinc (v := (v5 + (-1))) dX5_nextData_45 rfl (by decide) rfl ?_
          refine zg_st (pc' := 48) (L' := [some (.inr 0), some (.inl x1), some (.inl x2), some (.inl v3), some (.inl (bI x4)), some (.inl (v5 + (-1)))]) (S' := []) (M' := M) rfl rfl rfl rfl ?_
          refine zg_goto (tgt := 13) dX5_nextData_48 rfl ?_
          refine zg_st (pc' := 13) (L' := [some (.inr 0), some (.inl x1), some (.inl x2), some (.inl v3), some (.inl (bI x4)), some (.inl (v5 + (-1)))]) (S' := []) (M' := M) rfl rfl rfl rfl ?_
          refine zg_drop (L' := [some (.inr 0), some (.inl x1), some (.inl x2), some (.inl v3), some (.inl (bI x4)), some (.inl (v5 + (-1)))]) ⟨rfl, rfl, rfl, rfl, rfl, rfl, trivial⟩ ?_
          exact ih v3 (v5 + (-1)) (z_dns c21 (z_hx (hy c15)) hI) (z_dn c21 (z_hx (hy c15)) hm)
    · refine zg_st (pc' := 51) (L' := [some (.inr 0), some (.inl x1), some (.inl x2), some (.inl v3), some (.inl (bI x4)), some (.inl v5)]) (S' := []) (M' := M) rfl rfl rfl rfl ?_
      refine zg_drop (L' := [some (.inr 0), some (.inl x1), some (.inl x2), some (.inl v3), some (.inl (bI x4)), some (.inl v5)]) ⟨rfl, rfl, rfl, rfl, rfl, rfl, trivial⟩ ?_
      exact hx (v3, v5) hI
def f_X5_nextData (p1 : Int32) (p2 : Int32) (M : Mem) : (Int32 × Mem) :=
  zlet (l_X5_nextData_13 p1 p2 (f_X5_isBlock p1 p2) M (((11 : Int32).toInt + 1 - (p2 : Int32).toInt).toNat + 1) (-1) 11) (fun s1 =>
  if (f_X5_isBlock p1 p2) then if ¬ s1.1 = (-1) then (s1.1, (mup M 0 0 0))
      else (0, (mup M 0 0 2))
    else (0, (mup M 0 0 1)))
set_option maxRecDepth 100000 in
set_option maxHeartbeats 4000000 in
theorem k_X5_nextData (q : ZQ) (p1 : Int32) (p2 : Int32) (M : Mem) : Zc (zgM q) mX5_nextData 0 0 [.inr 0, .inl p1, .inl p2] M (wIM (f_X5_nextData p1 p2 M)) := by
  refine Zc.of (by decide) zi_X5_nextData.1 (Nat.le_of_ble_eq_true rfl) rfl ?_
  show Zg _ _ _ _ _ _ (zlet (f_X5_nextData p1 p2 M) wIM) _ _ _ _
  unfold f_X5_nextData
  refine zg_iconst (v := (-1)) dX5_nextData_0 rfl ?_
  refine zg_istore_n dX5_nextData_1 (by decide) ?_
  refine zg_st (pc' := 2) (L' := [some (.inr 0), some (.inl p1), some (.inl p2), some (.inl (-1)), none, none]) (S' := []) (M' := M) rfl rfl rfl rfl ?_
  refine zg_iload_n (x := p1) dX5_nextData_2 rfl ?_
  refine zg_iload_n (x := p2) dX5_nextData_3 rfl ?_
  refine zg_cS1 (As := [.inl p1, .inl p2]) (S := []) (v := bI ((f_X5_isBlock p1 p2))) dX5_nextData_4 zk_X5_70 (k_X5_isBlock q p1 p2 M) rfl ⟨by decide, by decide⟩ ⟨by decide, by decide⟩ rfl (Nat.le_of_ble_eq_true rfl) ?_
  refine zg_st (pc' := 7) (L' := [some (.inr 0), some (.inl p1), some (.inl p2), some (.inl (-1)), none, none]) (S' := [.inl (bI ((f_X5_isBlock p1 p2)))]) (M' := M) rfl rfl rfl rfl ?_
  refine zg_istore dX5_nextData_7 (by decide) ?_
  refine zg_st (pc' := 9) (L' := [some (.inr 0), some (.inl p1), some (.inl p2), some (.inl (-1)), some (.inl (bI ((f_X5_isBlock p1 p2)))), none]) (S' := []) (M' := M) rfl rfl rfl rfl ?_
  refine zg_bipush (v := 11) dX5_nextData_9 rfl ?_
  refine zg_istore dX5_nextData_11 (by decide) ?_
  refine zg_st (pc' := 13) (L' := [some (.inr 0), some (.inl p1), some (.inl p2), some (.inl (-1)), some (.inl (bI ((f_X5_isBlock p1 p2)))), some (.inl 11)]) (S' := []) (M' := M) rfl rfl rfl rfl ?_
  refine zg_asc ?_
  refine zg_drop (L' := [some (.inr 0), some (.inl p1), some (.inl p2), some (.inl (-1)), some (.inl (bI ((f_X5_isBlock p1 p2)))), some (.inl 11)]) ⟨rfl, rfl, rfl, rfl, rfl, rfl, trivial⟩ ?_
  refine kl_X5_nextData_13 q p1 p2 (f_X5_isBlock p1 p2) M (fun h => q_MisBlock.mp h) (fun s1 hI_s1 => ?_) (((11 : Int32).toInt + 1 - (p2 : Int32).toInt).toNat + 1) (-1) 11 (by decide) (Nat.lt_succ_self _)
  try dsimp only [Sum.elim_inr]
  refine zg_st (pc' := 51) (L' := [some (.inr 0), some (.inl p1), some (.inl p2), some (.inl s1.1), some (.inl (bI ((f_X5_isBlock p1 p2)))), some (.inl s1.2)]) (S' := []) (M' := M) rfl rfl rfl rfl ?_
  refine zg_aload_n (x := 0) dX5_nextData_51 rfl ?_
  refine zg_iload (x := bI ((f_X5_isBlock p1 p2))) dX5_nextData_52 rfl ?_
  refine zg_ifbn (tgt := 61) dX5_nextData_54 rfl (fun c54 => ?_) (fun c54 => ?_)
  · refine zg_st (pc' := 61) (L' := [some (.inr 0), some (.inl p1), some (.inl p2), some (.inl s1.1), some (.inl (bI ((f_X5_isBlock p1 p2)))), some (.inl s1.2)]) (S' := [.inr 0]) (M' := M) rfl rfl rfl rfl ?_
    refine zg_iload_n (x := s1.1) dX5_nextData_61 rfl ?_
    refine zg_iconst (v := (-1)) dX5_nextData_62 rfl ?_
    refine zg_icmpz (tgt := 70) dX5_nextData_63 rfl rfl (fun c63 => ?_) (fun c63 => ?_)
    · refine zg_st (pc' := 70) (L' := [some (.inr 0), some (.inl p1), some (.inl p2), some (.inl s1.1), some (.inl (bI ((f_X5_isBlock p1 p2)))), some (.inl s1.2)]) (S' := [.inr 0]) (M' := M) rfl rfl rfl rfl ?_
      refine zg_iconst (v := 0) dX5_nextData_70 rfl ?_
      refine zg_cV1 (As := [.inl 0]) (S := []) (v := 0) (N0 := (mup M 0 0 0)) dX5_nextData_71 zk_X5_74 (k_X5_refused q 0 M) rfl rfl ⟨by decide, by decide⟩ ⟨by decide, by decide⟩ rfl (Nat.le_of_ble_eq_true rfl) ?_
      refine zg_st (pc' := 74) (L' := [some (.inr 0), some (.inl p1), some (.inl p2), some (.inl s1.1), some (.inl (bI ((f_X5_isBlock p1 p2)))), some (.inl s1.2)]) (S' := [.inl 0]) (M' := (mup M 0 0 0)) rfl rfl rfl rfl ?_
      refine zg_jt (tgt := 81) dX5_nextData_74 rfl (show (0 : Int32) = 0 from by decide) ?_
      refine zg_st (pc' := 81) (L' := [some (.inr 0), some (.inl p1), some (.inl p2), some (.inl s1.1), some (.inl (bI ((f_X5_isBlock p1 p2)))), some (.inl s1.2)]) (S' := []) (M' := (mup M 0 0 0)) rfl rfl rfl rfl ?_
      refine zg_iload_n (x := s1.1) dX5_nextData_81 rfl ?_
      exact zg_iret dX5_nextData_82 rfl rfl ⟨by decide, by decide⟩ rfl
    · refine zg_st (pc' := 66) (L' := [some (.inr 0), some (.inl p1), some (.inl p2), some (.inl s1.1), some (.inl (bI ((f_X5_isBlock p1 p2)))), some (.inl s1.2)]) (S' := [.inr 0]) (M' := M) rfl rfl rfl rfl ?_
      refine zg_iconst (v := 2) dX5_nextData_66 rfl ?_
      refine zg_goto (tgt := 71) dX5_nextData_67 rfl ?_
      refine zg_st (pc' := 71) (L' := [some (.inr 0), some (.inl p1), some (.inl p2), some (.inl s1.1), some (.inl (bI ((f_X5_isBlock p1 p2)))), some (.inl s1.2)]) (S' := [.inl 2, .inr 0]) (M' := M) rfl rfl rfl rfl ?_
      refine zg_cV1 (As := [.inl 2]) (S := []) (v := 1) (N0 := (mup M 0 0 2)) dX5_nextData_71 zk_X5_74 (k_X5_refused q 2 M) rfl rfl ⟨by decide, by decide⟩ ⟨by decide, by decide⟩ rfl (Nat.le_of_ble_eq_true rfl) ?_
      refine zg_st (pc' := 74) (L' := [some (.inr 0), some (.inl p1), some (.inl p2), some (.inl s1.1), some (.inl (bI ((f_X5_isBlock p1 p2)))), some (.inl s1.2)]) (S' := [.inl 1]) (M' := (mup M 0 0 2)) rfl rfl rfl rfl ?_
      refine zg_jf (tgt := 81) dX5_nextData_74 rfl (show ¬ ((1 : Int32) = 0) from by decide) ?_
      refine zg_st (pc' := 77) (L' := [some (.inr 0), some (.inl p1), some (.inl p2), some (.inl s1.1), some (.inl (bI ((f_X5_isBlock p1 p2)))), some (.inl s1.2)]) (S' := []) (M' := (mup M 0 0 2)) rfl rfl rfl rfl ?_
      refine zg_iconst (v := 0) dX5_nextData_77 rfl ?_
      refine zg_goto (tgt := 82) dX5_nextData_78 rfl ?_
      refine zg_st (pc' := 82) (L' := [some (.inr 0), some (.inl p1), some (.inl p2), some (.inl s1.1), some (.inl (bI ((f_X5_isBlock p1 p2)))), some (.inl s1.2)]) (S' := [.inl 0]) (M' := (mup M 0 0 2)) rfl rfl rfl rfl ?_
      exact zg_iret dX5_nextData_82 rfl rfl ⟨by decide, by decide⟩ rfl
  · refine zg_st (pc' := 57) (L' := [some (.inr 0), some (.inl p1), some (.inl p2), some (.inl s1.1), some (.inl (bI ((f_X5_isBlock p1 p2)))), some (.inl s1.2)]) (S' := [.inr 0]) (M' := M) rfl rfl rfl rfl ?_
    refine zg_iconst (v := 1) dX5_nextData_57 rfl ?_
    refine zg_goto (tgt := 71) dX5_nextData_58 rfl ?_
    refine zg_st (pc' := 71) (L' := [some (.inr 0), some (.inl p1), some (.inl p2), some (.inl s1.1), some (.inl (bI ((f_X5_isBlock p1 p2)))), some (.inl s1.2)]) (S' := [.inl 1, .inr 0]) (M' := M) rfl rfl rfl rfl ?_
    refine zg_cV1 (As := [.inl 1]) (S := []) (v := 1) (N0 := (mup M 0 0 1)) dX5_nextData_71 zk_X5_74 (k_X5_refused q 1 M) rfl rfl ⟨by decide, by decide⟩ ⟨by decide, by decide⟩ rfl (Nat.le_of_ble_eq_true rfl) ?_
    refine zg_st (pc' := 74) (L' := [some (.inr 0), some (.inl p1), some (.inl p2), some (.inl s1.1), some (.inl (bI ((f_X5_isBlock p1 p2)))), some (.inl s1.2)]) (S' := [.inl 1]) (M' := (mup M 0 0 1)) rfl rfl rfl rfl ?_
    refine zg_jf (tgt := 81) dX5_nextData_74 rfl (show ¬ ((1 : Int32) = 0) from by decide) ?_
    refine zg_st (pc' := 77) (L' := [some (.inr 0), some (.inl p1), some (.inl p2), some (.inl s1.1), some (.inl (bI ((f_X5_isBlock p1 p2)))), some (.inl s1.2)]) (S' := []) (M' := (mup M 0 0 1)) rfl rfl rfl rfl ?_
    refine zg_iconst (v := 0) dX5_nextData_77 rfl ?_
    refine zg_goto (tgt := 82) dX5_nextData_78 rfl ?_
    refine zg_st (pc' := 82) (L' := [some (.inr 0), some (.inl p1), some (.inl p2), some (.inl s1.1), some (.inl (bI ((f_X5_isBlock p1 p2)))), some (.inl s1.2)]) (S' := [.inl 0]) (M' := (mup M 0 0 1)) rfl rfl rfl rfl ?_
    exact zg_iret dX5_nextData_82 rfl rfl ⟨by decide, by decide⟩ rfl
theorem dX5_nextHole_0 : decode cX5_nextHole 0 = .ok (.bipush 12, 2) := by decide +kernel
theorem dX5_nextHole_2 : decode cX5_nextHole 2 = .ok (.istore_n 3, 1) := by decide +kernel
theorem dX5_nextHole_3 : decode cX5_nextHole 3 = .ok (.iload_n 1, 1) := by decide +kernel
theorem dX5_nextHole_4 : decode cX5_nextHole 4 = .ok (.iload_n 2, 1) := by decide +kernel
theorem dX5_nextHole_5 : decode cX5_nextHole 5 = .ok (.invokestatic 70, 3) := by decide +kernel
theorem dX5_nextHole_8 : decode cX5_nextHole 8 = .ok (.istore 4, 2) := by decide +kernel
theorem dX5_nextHole_10 : decode cX5_nextHole 10 = .ok (.bipush 11, 2) := by decide +kernel
theorem dX5_nextHole_12 : decode cX5_nextHole 12 = .ok (.istore 5, 2) := by decide +kernel
theorem dX5_nextHole_14 : decode cX5_nextHole 14 = .ok (.iload 4, 2) := by decide +kernel
theorem dX5_nextHole_16 : decode cX5_nextHole 16 = .ok (.ifCond .eq 36, 3) := by decide +kernel
theorem dX5_nextHole_19 : decode cX5_nextHole 19 = .ok (.iload 5, 2) := by decide +kernel
theorem dX5_nextHole_21 : decode cX5_nextHole 21 = .ok (.iload_n 2, 1) := by decide +kernel
theorem dX5_nextHole_22 : decode cX5_nextHole 22 = .ok (.if_icmp .lt 30, 3) := by decide +kernel
theorem dX5_nextHole_25 : decode cX5_nextHole 25 = .ok (.aload_n 0, 1) := by decide +kernel
theorem dX5_nextHole_26 : decode cX5_nextHole 26 = .ok (.bipush 12, 2) := by decide +kernel
theorem dX5_nextHole_28 : decode cX5_nextHole 28 = .ok (.iload_n 1, 1) := by decide +kernel
theorem dX5_nextHole_29 : decode cX5_nextHole 29 = .ok (.imul, 1) := by decide +kernel
theorem dX5_nextHole_30 : decode cX5_nextHole 30 = .ok (.iload 5, 2) := by decide +kernel
theorem dX5_nextHole_32 : decode cX5_nextHole 32 = .ok (.iadd, 1) := by decide +kernel
theorem dX5_nextHole_33 : decode cX5_nextHole 33 = .ok (.invokevirtual 78, 3) := by decide +kernel
theorem dX5_nextHole_36 : decode cX5_nextHole 36 = .ok (.ifCond .ne 8, 3) := by decide +kernel
theorem dX5_nextHole_39 : decode cX5_nextHole 39 = .ok (.iload 5, 2) := by decide +kernel
theorem dX5_nextHole_41 : decode cX5_nextHole 41 = .ok (.goto 4, 3) := by decide +kernel
theorem dX5_nextHole_44 : decode cX5_nextHole 44 = .ok (.iload_n 3, 1) := by decide +kernel
theorem dX5_nextHole_45 : decode cX5_nextHole 45 = .ok (.istore_n 3, 1) := by decide +kernel
theorem dX5_nextHole_46 : decode cX5_nextHole 46 = .ok (.iinc 5 (-1), 3) := by decide +kernel
theorem dX5_nextHole_49 : decode cX5_nextHole 49 = .ok (.goto (-35), 3) := by decide +kernel
theorem dX5_nextHole_52 : decode cX5_nextHole 52 = .ok (.aload_n 0, 1) := by decide +kernel
theorem dX5_nextHole_53 : decode cX5_nextHole 53 = .ok (.iload 4, 2) := by decide +kernel
theorem dX5_nextHole_55 : decode cX5_nextHole 55 = .ok (.ifCond .eq 7, 3) := by decide +kernel
theorem dX5_nextHole_58 : decode cX5_nextHole 58 = .ok (.iconst 0, 1) := by decide +kernel
theorem dX5_nextHole_59 : decode cX5_nextHole 59 = .ok (.goto 4, 3) := by decide +kernel
theorem dX5_nextHole_62 : decode cX5_nextHole 62 = .ok (.iconst 1, 1) := by decide +kernel
theorem dX5_nextHole_63 : decode cX5_nextHole 63 = .ok (.invokevirtual 74, 3) := by decide +kernel
theorem dX5_nextHole_66 : decode cX5_nextHole 66 = .ok (.ifCond .eq 7, 3) := by decide +kernel
theorem dX5_nextHole_69 : decode cX5_nextHole 69 = .ok (.iconst 0, 1) := by decide +kernel
theorem dX5_nextHole_70 : decode cX5_nextHole 70 = .ok (.goto 4, 3) := by decide +kernel
theorem dX5_nextHole_73 : decode cX5_nextHole 73 = .ok (.iload_n 3, 1) := by decide +kernel
theorem dX5_nextHole_74 : decode cX5_nextHole 74 = .ok (.ireturn, 1) := by decide +kernel
def b_X5_nextHole_14 (x1 : Int32) (x2 : Int32) (x4 : Bool) (M : Mem) (rec : Int32 → Int32 → Int32 × Int32) (v3 : Int32) (v5 : Int32) : Int32 × Int32 :=
  if x4 then if v5 < x2 then (v3, v5)
    else if ¬ (f_X5_now ((12 * x1) + v5) M) = 0 then rec v3 (v5 + (-1))
    else rec v5 (v5 + (-1))
  else (v3, v5)
def l_X5_nextHole_14 (x1 : Int32) (x2 : Int32) (x4 : Bool) (M : Mem) : Nat → Int32 → Int32 → Int32 × Int32
  | 0, v3, v5 => (v3, v5)
  | n + 1, v3, v5 => b_X5_nextHole_14 x1 x2 x4 M (l_X5_nextHole_14 x1 x2 x4 M n) v3 v5
set_option maxRecDepth 100000 in
set_option maxHeartbeats 4000000 in
theorem kl_X5_nextHole_14 (q : ZQ) (x1 : Int32) (x2 : Int32) (x4 : Bool) (M : Mem) (hy : x4 = true → (0 ≤ x1.toInt ∧ x1.toInt < 4) ∧ 0 ≤ x2.toInt ∧ x2.toInt < 12) {K : Int32 × Int32 → ZR} (hx : ∀ e : Int32 × Int32, e.2.toInt ≤ 11 → Zg (zgM q) mX5_nextHole 0 0 0 0 (K e) 52 [some (.inr 0), some (.inl x1), some (.inl x2), some (.inl e.1), some (.inl (bI x4)), some (.inl e.2)] [] M) :
    ∀ (n : Nat) (v3 : Int32) (v5 : Int32), v5.toInt ≤ 11 → ((v5 : Int32).toInt + 1 - (x2 : Int32).toInt).toNat < n → Zg (zgM q) mX5_nextHole 0 0 0 0 (zlet (l_X5_nextHole_14 x1 x2 x4 M n v3 v5) K) 14 [some (.inr 0), some (.inl x1), some (.inl x2), some (.inl v3), some (.inl (bI x4)), some (.inl v5)] [] M := by
  intro n
  induction n with
  | zero => intro v3 v5 hI hm; exact absurd hm (Nat.not_lt_zero _)
  | succ n ih =>
    intro v3 v5 hI hm
    show Zg _ _ _ _ _ _ (zlet (b_X5_nextHole_14 x1 x2 x4 M (l_X5_nextHole_14 x1 x2 x4 M n) v3 v5) K) _ _ _ _
    unfold b_X5_nextHole_14
    refine zg_iload (x := bI x4) dX5_nextHole_14 rfl ?_
    refine zg_ifbe (tgt := 52) dX5_nextHole_16 rfl (fun c16 => ?_) (fun c16 => ?_)
    · refine zg_st (pc' := 19) (L' := [some (.inr 0), some (.inl x1), some (.inl x2), some (.inl v3), some (.inl (bI x4)), some (.inl v5)]) (S' := []) (M' := M) rfl rfl rfl rfl ?_
      refine zg_iload (x := v5) dX5_nextHole_19 rfl ?_
      refine zg_iload_n (x := x2) dX5_nextHole_21 rfl ?_
      refine zg_icmpz (tgt := 52) dX5_nextHole_22 rfl rfl (fun c22 => ?_) (fun c22 => ?_)
      · refine zg_st (pc' := 52) (L' := [some (.inr 0), some (.inl x1), some (.inl x2), some (.inl v3), some (.inl (bI x4)), some (.inl v5)]) (S' := []) (M' := M) rfl rfl rfl rfl ?_
        refine zg_drop (L' := [some (.inr 0), some (.inl x1), some (.inl x2), some (.inl v3), some (.inl (bI x4)), some (.inl v5)]) ⟨rfl, rfl, rfl, rfl, rfl, rfl, trivial⟩ ?_
        exact hx (v3, v5) hI
      · refine zg_st (pc' := 25) (L' := [some (.inr 0), some (.inl x1), some (.inl x2), some (.inl v3), some (.inl (bI x4)), some (.inl v5)]) (S' := []) (M' := M) rfl rfl rfl rfl ?_
        refine zg_aload_n (x := 0) dX5_nextHole_25 rfl ?_
        refine zg_bipush (v := 12) dX5_nextHole_26 rfl ?_
        refine zg_iload_n (x := x1) dX5_nextHole_28 rfl ?_
        refine zg_imul dX5_nextHole_29 ?_
        refine zg_iload (x := v5) dX5_nextHole_30 rfl ?_
        refine zg_iadd dX5_nextHole_32 ?_
        refine zg_cV1 (As := [.inl ((12 * x1) + v5)]) (S := []) (v := (f_X5_now ((12 * x1) + v5) M)) dX5_nextHole_33 zk_X5_78 (k_X5_now q ((12 * x1) + v5) M (z_nd (hy c16) c22 hI)) rfl rfl ⟨by decide, by decide⟩ ⟨by decide, by decide⟩ rfl (Nat.le_of_ble_eq_true rfl) ?_
        refine zg_st (pc' := 36) (L' := [some (.inr 0), some (.inl x1), some (.inl x2), some (.inl v3), some (.inl (bI x4)), some (.inl v5)]) (S' := [.inl (f_X5_now ((12 * x1) + v5) M)]) (M' := M) rfl rfl rfl rfl ?_
        refine zg_ifz (tgt := 44) dX5_nextHole_36 rfl rfl (fun c36 => ?_) (fun c36 => ?_)
        · refine zg_st (pc' := 44) (L' := [some (.inr 0), some (.inl x1), some (.inl x2), some (.inl v3), some (.inl (bI x4)), some (.inl v5)]) (S' := []) (M' := M) rfl rfl rfl rfl ?_
          refine zg_iload_n (x := v3) dX5_nextHole_44 rfl ?_
          refine zg_istore_n dX5_nextHole_45 (by decide) ?_
          refine zg_st (pc' := 46) (L' := [some (.inr 0), some (.inl x1), some (.inl x2), some (.inl v3), some (.inl (bI x4)), some (.inl v5)]) (S' := []) (M' := M) rfl rfl rfl rfl ?_
          refine zg_iinc (v := (v5 + (-1))) dX5_nextHole_46 rfl (by decide) rfl ?_
          refine zg_st (pc' := 49) (L' := [some (.inr 0), some (.inl x1), some (.inl x2), some (.inl v3), some (.inl (bI x4)), some (.inl (v5 + (-1)))]) (S' := []) (M' := M) rfl rfl rfl rfl ?_
          refine zg_goto (tgt := 14) dX5_nextHole_49 rfl ?_
          refine zg_st (pc' := 14) (L' := [some (.inr 0), some (.inl x1), some (.inl x2), some (.inl v3), some (.inl (bI x4)), some (.inl (v5 + (-1)))]) (S' := []) (M' := M) rfl rfl rfl rfl ?_
          refine zg_drop (L' := [some (.inr 0), some (.inl x1), some (.inl x2), some (.inl v3), some (.inl (bI x4)), some (.inl (v5 + (-1)))]) ⟨rfl, rfl, rfl, rfl, rfl, rfl, trivial⟩ ?_
          exact ih v3 (v5 + (-1)) (z_dns c22 (z_hx (hy c16)) hI) (z_dn c22 (z_hx (hy c16)) hm)
        · refine zg_st (pc' := 39) (L' := [some (.inr 0), some (.inl x1), some (.inl x2), some (.inl v3), some (.inl (bI x4)), some (.inl v5)]) (S' := []) (M' := M) rfl rfl rfl rfl ?_
          refine zg_iload (x := v5) dX5_nextHole_39 rfl ?_
          refine zg_goto (tgt := 45) dX5_nextHole_41 rfl ?_
          refine zg_st (pc' := 45) (L' := [some (.inr 0), some (.inl x1), some (.inl x2), some (.inl v3), some (.inl (bI x4)), some (.inl v5)]) (S' := [.inl v5]) (M' := M) rfl rfl rfl rfl ?_
          refine zg_istore_n dX5_nextHole_45 (by decide) ?_
          refine zg_st (pc' := 46) (L' := [some (.inr 0), some (.inl x1), some (.inl x2), some (.inl v5), some (.inl (bI x4)), some (.inl v5)]) (S' := []) (M' := M) rfl rfl rfl rfl ?_
          refine zg_iinc (v := (v5 + (-1))) dX5_nextHole_46 rfl (by decide) rfl ?_
          refine zg_st (pc' := 49) (L' := [some (.inr 0), some (.inl x1), some (.inl x2), some (.inl v5), some (.inl (bI x4)), some (.inl (v5 + (-1)))]) (S' := []) (M' := M) rfl rfl rfl rfl ?_
          refine zg_goto (tgt := 14) dX5_nextHole_49 rfl ?_
          refine zg_st (pc' := 14) (L' := [some (.inr 0), some (.inl x1), some (.inl x2), some (.inl v5), some (.inl (bI x4)), some (.inl (v5 + (-1)))]) (S' := []) (M' := M) rfl rfl rfl rfl ?_
          refine zg_drop (L' := [some (.inr 0), some (.inl x1), some (.inl x2), some (.inl v5), some (.inl (bI x4)), some (.inl (v5 + (-1)))]) ⟨rfl, rfl, rfl, rfl, rfl, rfl, trivial⟩ ?_
          exact ih v5 (v5 + (-1)) (z_dns c22 (z_hx (hy c16)) hI) (z_dn c22 (z_hx (hy c16)) hm)
    · refine zg_st (pc' := 52) (L' := [some (.inr 0), some (.inl x1), some (.inl x2), some (.inl v3), some (.inl (bI x4)), some (.inl v5)]) (S' := []) (M' := M) rfl rfl rfl rfl ?_
      refine zg_drop (L' := [some (.inr 0), some (.inl x1), some (.inl x2), some (.inl v3), some (.inl (bI x4)), some (.inl v5)]) ⟨rfl, rfl, rfl, rfl, rfl, rfl, trivial⟩ ?_
      exact hx (v3, v5) hI
def f_X5_nextHole (p1 : Int32) (p2 : Int32) (M : Mem) : (Int32 × Mem) :=
  zlet (l_X5_nextHole_14 p1 p2 (f_X5_isBlock p1 p2) M (((11 : Int32).toInt + 1 - (p2 : Int32).toInt).toNat + 1) 12 11) (fun s1 =>
  if (f_X5_isBlock p1 p2) then (s1.1, (mup M 0 0 0))
    else (0, (mup M 0 0 1)))
set_option maxRecDepth 100000 in
set_option maxHeartbeats 4000000 in
theorem k_X5_nextHole (q : ZQ) (p1 : Int32) (p2 : Int32) (M : Mem) : Zc (zgM q) mX5_nextHole 0 0 [.inr 0, .inl p1, .inl p2] M (wIM (f_X5_nextHole p1 p2 M)) := by
  refine Zc.of (by decide) zi_X5_nextHole.1 (Nat.le_of_ble_eq_true rfl) rfl ?_
  show Zg _ _ _ _ _ _ (zlet (f_X5_nextHole p1 p2 M) wIM) _ _ _ _
  unfold f_X5_nextHole
  refine zg_bipush (v := 12) dX5_nextHole_0 rfl ?_
  refine zg_istore_n dX5_nextHole_2 (by decide) ?_
  refine zg_st (pc' := 3) (L' := [some (.inr 0), some (.inl p1), some (.inl p2), some (.inl 12), none, none]) (S' := []) (M' := M) rfl rfl rfl rfl ?_
  refine zg_iload_n (x := p1) dX5_nextHole_3 rfl ?_
  refine zg_iload_n (x := p2) dX5_nextHole_4 rfl ?_
  refine zg_cS1 (As := [.inl p1, .inl p2]) (S := []) (v := bI ((f_X5_isBlock p1 p2))) dX5_nextHole_5 zk_X5_70 (k_X5_isBlock q p1 p2 M) rfl ⟨by decide, by decide⟩ ⟨by decide, by decide⟩ rfl (Nat.le_of_ble_eq_true rfl) ?_
  refine zg_st (pc' := 8) (L' := [some (.inr 0), some (.inl p1), some (.inl p2), some (.inl 12), none, none]) (S' := [.inl (bI ((f_X5_isBlock p1 p2)))]) (M' := M) rfl rfl rfl rfl ?_
  refine zg_istore dX5_nextHole_8 (by decide) ?_
  refine zg_st (pc' := 10) (L' := [some (.inr 0), some (.inl p1), some (.inl p2), some (.inl 12), some (.inl (bI ((f_X5_isBlock p1 p2)))), none]) (S' := []) (M' := M) rfl rfl rfl rfl ?_
  refine zg_bipush (v := 11) dX5_nextHole_10 rfl ?_
  refine zg_istore dX5_nextHole_12 (by decide) ?_
  refine zg_st (pc' := 14) (L' := [some (.inr 0), some (.inl p1), some (.inl p2), some (.inl 12), some (.inl (bI ((f_X5_isBlock p1 p2)))), some (.inl 11)]) (S' := []) (M' := M) rfl rfl rfl rfl ?_
  refine zg_asc ?_
  refine zg_drop (L' := [some (.inr 0), some (.inl p1), some (.inl p2), some (.inl 12), some (.inl (bI ((f_X5_isBlock p1 p2)))), some (.inl 11)]) ⟨rfl, rfl, rfl, rfl, rfl, rfl, trivial⟩ ?_
  refine kl_X5_nextHole_14 q p1 p2 (f_X5_isBlock p1 p2) M (fun h => q_MisBlock.mp h) (fun s1 hI_s1 => ?_) (((11 : Int32).toInt + 1 - (p2 : Int32).toInt).toNat + 1) 12 11 (by decide) (Nat.lt_succ_self _)
  try dsimp only [Sum.elim_inr]
  refine zg_st (pc' := 52) (L' := [some (.inr 0), some (.inl p1), some (.inl p2), some (.inl s1.1), some (.inl (bI ((f_X5_isBlock p1 p2)))), some (.inl s1.2)]) (S' := []) (M' := M) rfl rfl rfl rfl ?_
  refine zg_aload_n (x := 0) dX5_nextHole_52 rfl ?_
  refine zg_iload (x := bI ((f_X5_isBlock p1 p2))) dX5_nextHole_53 rfl ?_
  refine zg_ifbe (tgt := 62) dX5_nextHole_55 rfl (fun c55 => ?_) (fun c55 => ?_)
  · refine zg_st (pc' := 58) (L' := [some (.inr 0), some (.inl p1), some (.inl p2), some (.inl s1.1), some (.inl (bI ((f_X5_isBlock p1 p2)))), some (.inl s1.2)]) (S' := [.inr 0]) (M' := M) rfl rfl rfl rfl ?_
    refine zg_iconst (v := 0) dX5_nextHole_58 rfl ?_
    refine zg_goto (tgt := 63) dX5_nextHole_59 rfl ?_
    refine zg_st (pc' := 63) (L' := [some (.inr 0), some (.inl p1), some (.inl p2), some (.inl s1.1), some (.inl (bI ((f_X5_isBlock p1 p2)))), some (.inl s1.2)]) (S' := [.inl 0, .inr 0]) (M' := M) rfl rfl rfl rfl ?_
    refine zg_cV1 (As := [.inl 0]) (S := []) (v := 0) (N0 := (mup M 0 0 0)) dX5_nextHole_63 zk_X5_74 (k_X5_refused q 0 M) rfl rfl ⟨by decide, by decide⟩ ⟨by decide, by decide⟩ rfl (Nat.le_of_ble_eq_true rfl) ?_
    refine zg_st (pc' := 66) (L' := [some (.inr 0), some (.inl p1), some (.inl p2), some (.inl s1.1), some (.inl (bI ((f_X5_isBlock p1 p2)))), some (.inl s1.2)]) (S' := [.inl 0]) (M' := (mup M 0 0 0)) rfl rfl rfl rfl ?_
    refine zg_jt (tgt := 73) dX5_nextHole_66 rfl (show (0 : Int32) = 0 from by decide) ?_
    refine zg_st (pc' := 73) (L' := [some (.inr 0), some (.inl p1), some (.inl p2), some (.inl s1.1), some (.inl (bI ((f_X5_isBlock p1 p2)))), some (.inl s1.2)]) (S' := []) (M' := (mup M 0 0 0)) rfl rfl rfl rfl ?_
    refine zg_iload_n (x := s1.1) dX5_nextHole_73 rfl ?_
    exact zg_iret dX5_nextHole_74 rfl rfl ⟨by decide, by decide⟩ rfl
  · refine zg_st (pc' := 62) (L' := [some (.inr 0), some (.inl p1), some (.inl p2), some (.inl s1.1), some (.inl (bI ((f_X5_isBlock p1 p2)))), some (.inl s1.2)]) (S' := [.inr 0]) (M' := M) rfl rfl rfl rfl ?_
    refine zg_iconst (v := 1) dX5_nextHole_62 rfl ?_
    refine zg_cV1 (As := [.inl 1]) (S := []) (v := 1) (N0 := (mup M 0 0 1)) dX5_nextHole_63 zk_X5_74 (k_X5_refused q 1 M) rfl rfl ⟨by decide, by decide⟩ ⟨by decide, by decide⟩ rfl (Nat.le_of_ble_eq_true rfl) ?_
    refine zg_st (pc' := 66) (L' := [some (.inr 0), some (.inl p1), some (.inl p2), some (.inl s1.1), some (.inl (bI ((f_X5_isBlock p1 p2)))), some (.inl s1.2)]) (S' := [.inl 1]) (M' := (mup M 0 0 1)) rfl rfl rfl rfl ?_
    refine zg_jf (tgt := 73) dX5_nextHole_66 rfl (show ¬ ((1 : Int32) = 0) from by decide) ?_
    refine zg_st (pc' := 69) (L' := [some (.inr 0), some (.inl p1), some (.inl p2), some (.inl s1.1), some (.inl (bI ((f_X5_isBlock p1 p2)))), some (.inl s1.2)]) (S' := []) (M' := (mup M 0 0 1)) rfl rfl rfl rfl ?_
    refine zg_iconst (v := 0) dX5_nextHole_69 rfl ?_
    refine zg_goto (tgt := 74) dX5_nextHole_70 rfl ?_
    refine zg_st (pc' := 74) (L' := [some (.inr 0), some (.inl p1), some (.inl p2), some (.inl s1.1), some (.inl (bI ((f_X5_isBlock p1 p2)))), some (.inl s1.2)]) (S' := [.inl 0]) (M' := (mup M 0 0 1)) rfl rfl rfl rfl ?_
    exact zg_iret dX5_nextHole_74 rfl rfl ⟨by decide, by decide⟩ rfl
