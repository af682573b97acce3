theorem dX5_offline_0 : decode cX5_offline 0 = .ok (.aload_n 0, 1) := by decide +kernel
theorem dX5_offline_1 : decode cX5_offline 1 = .ok (.iload_n 1, 1) := by decide +kernel
theorem dX5_offline_2 : decode cX5_offline 2 = .ok (.iload_n 2, 1) := by decide +kernel
theorem dX5_offline_3 : decode cX5_offline 3 = .ok (.invokestatic 152, 3) := by decide +kernel
theorem dX5_offline_6 : decode cX5_offline 6 = .ok (.ifCond .ne 7, 3) := by decide +kernel
theorem dX5_offline_9 : decode cX5_offline 9 = .ok (.iconst 1, 1) := by decide +kernel
theorem dX5_offline_10 : decode cX5_offline 10 = .ok (.goto 32, 3) := by decide +kernel
theorem dX5_offline_13 : decode cX5_offline 13 = .ok (.aload_n 0, 1) := by decide +kernel
theorem dX5_offline_14 : decode cX5_offline 14 = .ok (.getfield 42, 3) := by decide +kernel
theorem dX5_offline_17 : decode cX5_offline 17 = .ok (.iconst 2, 1) := by decide +kernel
theorem dX5_offline_18 : decode cX5_offline 18 = .ok (.iload_n 1, 1) := by decide +kernel
theorem dX5_offline_19 : decode cX5_offline 19 = .ok (.imul, 1) := by decide +kernel
theorem dX5_offline_20 : decode cX5_offline 20 = .ok (.baload, 1) := by decide +kernel
theorem dX5_offline_21 : decode cX5_offline 21 = .ok (.ifCond .ne 16, 3) := by decide +kernel
theorem dX5_offline_24 : decode cX5_offline 24 = .ok (.aload_n 0, 1) := by decide +kernel
theorem dX5_offline_25 : decode cX5_offline 25 = .ok (.getfield 42, 3) := by decide +kernel
theorem dX5_offline_28 : decode cX5_offline 28 = .ok (.iconst 2, 1) := by decide +kernel
theorem dX5_offline_29 : decode cX5_offline 29 = .ok (.iload_n 1, 1) := by decide +kernel
theorem dX5_offline_30 : decode cX5_offline 30 = .ok (.imul, 1) := by decide +kernel
theorem dX5_offline_31 : decode cX5_offline 31 = .ok (.iconst 1, 1) := by decide +kernel
theorem dX5_offline_32 : decode cX5_offline 32 = .ok (.iadd, 1) := by decide +kernel
theorem dX5_offline_33 : decode cX5_offline 33 = .ok (.baload, 1) := by decide +kernel
theorem dX5_offline_34 : decode cX5_offline 34 = .ok (.ifCond .eq 7, 3) := by decide +kernel
theorem dX5_offline_37 : decode cX5_offline 37 = .ok (.iconst 2, 1) := by decide +kernel
theorem dX5_offline_38 : decode cX5_offline 38 = .ok (.goto 4, 3) := by decide +kernel
theorem dX5_offline_41 : decode cX5_offline 41 = .ok (.iconst 0, 1) := by decide +kernel
theorem dX5_offline_42 : decode cX5_offline 42 = .ok (.invokevirtual 74, 3) := by decide +kernel
theorem dX5_offline_45 : decode cX5_offline 45 = .ok (.ifCond .ne 30, 3) := by decide +kernel
theorem dX5_offline_48 : decode cX5_offline 48 = .ok (.aload_n 0, 1) := by decide +kernel
theorem dX5_offline_49 : decode cX5_offline 49 = .ok (.getfield 42, 3) := by decide +kernel
theorem dX5_offline_52 : decode cX5_offline 52 = .ok (.iconst 2, 1) := by decide +kernel
theorem dX5_offline_53 : decode cX5_offline 53 = .ok (.iload_n 1, 1) := by decide +kernel
theorem dX5_offline_54 : decode cX5_offline 54 = .ok (.imul, 1) := by decide +kernel
theorem dX5_offline_55 : decode cX5_offline 55 = .ok (.iload_n 2, 1) := by decide +kernel
theorem dX5_offline_56 : decode cX5_offline 56 = .ok (.iadd, 1) := by decide +kernel
theorem dX5_offline_57 : decode cX5_offline 57 = .ok (.iconst 1, 1) := by decide +kernel
theorem dX5_offline_58 : decode cX5_offline 58 = .ok (.bastore, 1) := by decide +kernel
theorem dX5_offline_59 : decode cX5_offline 59 = .ok (.aload_n 0, 1) := by decide +kernel
theorem dX5_offline_60 : decode cX5_offline 60 = .ok (.getfield 45, 3) := by decide +kernel
theorem dX5_offline_63 : decode cX5_offline 63 = .ok (.iconst 2, 1) := by decide +kernel
theorem dX5_offline_64 : decode cX5_offline 64 = .ok (.iload_n 1, 1) := by decide +kernel
theorem dX5_offline_65 : decode cX5_offline 65 = .ok (.imul, 1) := by decide +kernel
theorem dX5_offline_66 : decode cX5_offline 66 = .ok (.iload_n 2, 1) := by decide +kernel
theorem dX5_offline_67 : decode cX5_offline 67 = .ok (.iadd, 1) := by decide +kernel
theorem dX5_offline_68 : decode cX5_offline 68 = .ok (.aload_n 0, 1) := by decide +kernel
theorem dX5_offline_69 : decode cX5_offline 69 = .ok (.getfield 7, 3) := by decide +kernel
theorem dX5_offline_72 : decode cX5_offline 72 = .ok (.iconst 1, 1) := by decide +kernel
theorem dX5_offline_73 : decode cX5_offline 73 = .ok (.isub, 1) := by decide +kernel
theorem dX5_offline_74 : decode cX5_offline 74 = .ok (.iastore, 1) := by decide +kernel
theorem dX5_offline_75 : decode cX5_offline 75 = .ok (.return_, 1) := by decide +kernel
def f_X5_offline (p1 : Int32) (p2 : Int32) (M : Mem) : Mem :=
  if (f_X5_isSide p1 p2) then if ¬ (M 10 (2 * p1).toNatClampNeg) = 0 then (mup M 0 0 2)
    else if (M 10 ((2 * p1) + 1).toNatClampNeg) = 0 then (mup (mup (mup M 0 0 0) 10 ((2 * p1) + p2).toNatClampNeg 1) 11 ((2 * p1) + p2).toNatClampNeg (((mup (mup M 0 0 0) 10 ((2 * p1) + p2).toNatClampNeg 1) 0 1) - 1))
    else (mup M 0 0 2)
  else (mup M 0 0 1)
set_option maxRecDepth 100000 in
set_option maxHeartbeats 4000000 in
theorem k_X5_offline (q : ZQ) (p1 : Int32) (p2 : Int32) (M : Mem) : Zc (zgM q) mX5_offline 0 0 [.inr 0, .inl p1, .inl p2] M (wV (f_X5_offline p1 p2 M)) := by
  refine Zc.of (by decide) zi_X5_offline.1 (Nat.le_of_ble_eq_true rfl) rfl ?_
  show Zg _ _ _ _ _ _ (zlet (f_X5_offline p1 p2 M) wV) _ _ _ _
  unfold f_X5_offline
  refine zg_aload_n (x := 0) dX5_offline_0 rfl ?_
  refine zg_iload_n (x := p1) dX5_offline_1 rfl ?_
  refine zg_iload_n (x := p2) dX5_offline_2 rfl ?_
  refine zg_cS1 (As := [.inl p1, .inl p2]) (S := [.inr 0]) (v := bI ((f_X5_isSide p1 p2))) dX5_offline_3 zk_X5_152 (k_X5_isSide q p1 p2 M) rfl ⟨by decide, by decide⟩ ⟨by decide, by decide⟩ rfl (Nat.le_of_ble_eq_true rfl) ?_
  refine zg_st (pc' := 6) (L' := [some (.inr 0), some (.inl p1), some (.inl p2)]) (S' := [.inl (bI ((f_X5_isSide p1 p2))), .inr 0]) (M' := M) rfl rfl rfl rfl ?_
  refine zg_ifbn (tgt := 13) dX5_offline_6 rfl (fun c6 => ?_) (fun c6 => ?_)
  · refine zg_st (pc' := 13) (L' := [some (.inr 0), some (.inl p1), some (.inl p2)]) (S' := [.inr 0]) (M' := M) rfl rfl rfl rfl ?_
    refine zg_aload_n (x := 0) dX5_offline_13 rfl ?_
    refine zg_getf (v := .inr 10) dX5_offline_14 zf_X5_42 rfl rfl rfl ?_
    refine zg_iconst (v := 2) dX5_offline_17 rfl ?_
    refine zg_iload_n (x := p1) dX5_offline_18 rfl ?_
    refine zg_imul dX5_offline_19 ?_
    refine zg_zald dX5_offline_20 rfl (by first | with_reducible exact z_s6 c6 | with_reducible exact z_s6a c6 | with_reducible exact z_s6b c6) ?_
    refine zg_ifz (tgt := 37) dX5_offline_21 rfl rfl (fun c21 => ?_) (fun c21 => ?_)
    · refine zg_st (pc' := 37) (L' := [some (.inr 0), some (.inl p1), some (.inl p2)]) (S' := [.inr 0]) (M' := M) rfl rfl rfl rfl ?_
      refine zg_iconst (v := 2) dX5_offline_37 rfl ?_
      refine zg_goto (tgt := 42) dX5_offline_38 rfl ?_
      refine zg_st (pc' := 42) (L' := [some (.inr 0), some (.inl p1), some (.inl p2)]) (S' := [.inl 2, .inr 0]) (M' := M) rfl rfl rfl rfl ?_
      refine zg_cV1 (As := [.inl 2]) (S := []) (v := 1) (N0 := (mup M 0 0 2)) dX5_offline_42 zk_X5_74 (k_X5_refused q 2 M) rfl rfl ⟨by decide, by decide⟩ ⟨by decide, by decide⟩ rfl (Nat.le_of_ble_eq_true rfl) ?_
      refine zg_st (pc' := 45) (L' := [some (.inr 0), some (.inl p1), some (.inl p2)]) (S' := [.inl 1]) (M' := (mup M 0 0 2)) rfl rfl rfl rfl ?_
      refine zg_jt (tgt := 75) dX5_offline_45 rfl (show ¬ (1 : Int32) = 0 from by decide) ?_
      refine zg_st (pc' := 75) (L' := [some (.inr 0), some (.inl p1), some (.inl p2)]) (S' := []) (M' := (mup M 0 0 2)) rfl rfl rfl rfl ?_
      exact zg_vret dX5_offline_75 rfl ⟨by decide, by decide⟩ rfl
    · refine zg_st (pc' := 24) (L' := [some (.inr 0), some (.inl p1), some (.inl p2)]) (S' := [.inr 0]) (M' := M) rfl rfl rfl rfl ?_
      refine zg_aload_n (x := 0) dX5_offline_24 rfl ?_
      refine zg_getf (v := .inr 10) dX5_offline_25 zf_X5_42 rfl rfl rfl ?_
      refine zg_iconst (v := 2) dX5_offline_28 rfl ?_
      refine zg_iload_n (x := p1) dX5_offline_29 rfl ?_
      refine zg_imul dX5_offline_30 ?_
      refine zg_iconst (v := 1) dX5_offline_31 rfl ?_
      refine zg_iadd dX5_offline_32 ?_
      refine zg_zald dX5_offline_33 rfl (by first | with_reducible exact z_s6 c6 | with_reducible exact z_s6a c6 | with_reducible exact z_s6b c6) ?_
      refine zg_ifz (tgt := 41) dX5_offline_34 rfl rfl (fun c34 => ?_) (fun c34 => ?_)
      · refine zg_st (pc' := 41) (L' := [some (.inr 0), some (.inl p1), some (.inl p2)]) (S' := [.inr 0]) (M' := M) rfl rfl rfl rfl ?_
        refine zg_iconst (v := 0) dX5_offline_41 rfl ?_
        refine zg_cV1 (As := [.inl 0]) (S := []) (v := 0) (N0 := (mup M 0 0 0)) dX5_offline_42 zk_X5_74 (k_X5_refused q 0 M) rfl rfl ⟨by decide, by decide⟩ ⟨by decide, by decide⟩ rfl (Nat.le_of_ble_eq_true rfl) ?_
        refine zg_st (pc' := 45) (L' := [some (.inr 0), some (.inl p1), some (.inl p2)]) (S' := [.inl 0]) (M' := (mup M 0 0 0)) rfl rfl rfl rfl ?_
        refine zg_jf (tgt := 75) dX5_offline_45 rfl (show ¬ (¬ (0 : Int32) = 0) from by decide) ?_
        refine zg_st (pc' := 48) (L' := [some (.inr 0), some (.inl p1), some (.inl p2)]) (S' := []) (M' := (mup M 0 0 0)) rfl rfl rfl rfl ?_
        refine zg_aload_n (x := 0) dX5_offline_48 rfl ?_
        refine zg_getf (v := .inr 10) dX5_offline_49 zf_X5_42 rfl rfl rfl ?_
        refine zg_iconst (v := 2) dX5_offline_52 rfl ?_
        refine zg_iload_n (x := p1) dX5_offline_53 rfl ?_
        refine zg_imul dX5_offline_54 ?_
        refine zg_iload_n (x := p2) dX5_offline_55 rfl ?_
        refine zg_iadd dX5_offline_56 ?_
        refine zg_iconst (v := 1) dX5_offline_57 rfl ?_
        refine zg_zast (v := 1) dX5_offline_58 rfl (by first | with_reducible exact z_s6 c6 | with_reducible exact z_s6a c6 | with_reducible exact z_s6b c6) rfl ?_
        refine zg_aload_n (x := 0) dX5_offline_59 rfl ?_
        refine zg_getf (v := .inr 11) dX5_offline_60 zf_X5_45 rfl rfl rfl ?_
        refine zg_iconst (v := 2) dX5_offline_63 rfl ?_
        refine zg_iload_n (x := p1) dX5_offline_64 rfl ?_
        refine zg_imul dX5_offline_65 ?_
        refine zg_iload_n (x := p2) dX5_offline_66 rfl ?_
        refine zg_iadd dX5_offline_67 ?_
        refine zg_aload_n (x := 0) dX5_offline_68 rfl ?_
        refine zg_getf (v := .inl ((mup (mup M 0 0 0) 10 ((2 * p1) + p2).toNatClampNeg 1) 0 1)) dX5_offline_69 zf_X5_7 rfl rfl rfl ?_
        refine zg_iconst (v := 1) dX5_offline_72 rfl ?_
        refine zg_isub dX5_offline_73 ?_
        refine zg_iast dX5_offline_74 rfl (by first | with_reducible exact z_s6 c6 | with_reducible exact z_s6a c6 | with_reducible exact z_s6b c6) ?_
        exact zg_vret dX5_offline_75 rfl ⟨by decide, by decide⟩ rfl
      · refine zg_st (pc' := 37) (L' := [some (.inr 0), some (.inl p1), some (.inl p2)]) (S' := [.inr 0]) (M' := M) rfl rfl rfl rfl ?_
        refine zg_iconst (v := 2) dX5_offline_37 rfl ?_
        refine zg_goto (tgt := 42) dX5_offline_38 rfl ?_
        refine zg_st (pc' := 42) (L' := [some (.inr 0), some (.inl p1), some (.inl p2)]) (S' := [.inl 2, .inr 0]) (M' := M) rfl rfl rfl rfl ?_
        refine zg_cV1 (As := [.inl 2]) (S := []) (v := 1) (N0 := (mup M 0 0 2)) dX5_offline_42 zk_X5_74 (k_X5_refused q 2 M) rfl rfl ⟨by decide, by decide⟩ ⟨by decide, by decide⟩ rfl (Nat.le_of_ble_eq_true rfl) ?_
        refine zg_st (pc' := 45) (L' := [some (.inr 0), some (.inl p1), some (.inl p2)]) (S' := [.inl 1]) (M' := (mup M 0 0 2)) rfl rfl rfl rfl ?_
        refine zg_jt (tgt := 75) dX5_offline_45 rfl (show ¬ (1 : Int32) = 0 from by decide) ?_
        refine zg_st (pc' := 75) (L' := [some (.inr 0), some (.inl p1), some (.inl p2)]) (S' := []) (M' := (mup M 0 0 2)) rfl rfl rfl rfl ?_
        exact zg_vret dX5_offline_75 rfl ⟨by decide, by decide⟩ rfl
  · refine zg_st (pc' := 9) (L' := [some (.inr 0), some (.inl p1), some (.inl p2)]) (S' := [.inr 0]) (M' := M) rfl rfl rfl rfl ?_
    refine zg_iconst (v := 1) dX5_offline_9 rfl ?_
    refine zg_goto (tgt := 42) dX5_offline_10 rfl ?_
    refine zg_st (pc' := 42) (L' := [some (.inr 0), some (.inl p1), some (.inl p2)]) (S' := [.inl 1, .inr 0]) (M' := M) rfl rfl rfl rfl ?_
    refine zg_cV1 (As := [.inl 1]) (S := []) (v := 1) (N0 := (mup M 0 0 1)) dX5_offline_42 zk_X5_74 (k_X5_refused q 1 M) rfl rfl ⟨by decide, by decide⟩ ⟨by decide, by decide⟩ rfl (Nat.le_of_ble_eq_true rfl) ?_
    refine zg_st (pc' := 45) (L' := [some (.inr 0), some (.inl p1), some (.inl p2)]) (S' := [.inl 1]) (M' := (mup M 0 0 1)) rfl rfl rfl rfl ?_
    refine zg_jt (tgt := 75) dX5_offline_45 rfl (show ¬ (1 : Int32) = 0 from by decide) ?_
    refine zg_st (pc' := 75) (L' := [some (.inr 0), some (.inl p1), some (.inl p2)]) (S' := []) (M' := (mup M 0 0 1)) rfl rfl rfl rfl ?_
    exact zg_vret dX5_offline_75 rfl ⟨by decide, by decide⟩ rfl
theorem dX5_isBehind_0 : decode cX5_isBehind 0 = .ok (.aload_n 0, 1) := by decide +kernel
theorem dX5_isBehind_1 : decode cX5_isBehind 1 = .ok (.iload_n 1, 1) := by decide +kernel
theorem dX5_isBehind_2 : decode cX5_isBehind 2 = .ok (.invokevirtual 92, 3) := by decide +kernel
theorem dX5_isBehind_5 : decode cX5_isBehind 5 = .ok (.ifCond .eq 17, 3) := by decide +kernel
theorem dX5_isBehind_8 : decode cX5_isBehind 8 = .ok (.aload_n 0, 1) := by decide +kernel
theorem dX5_isBehind_9 : decode cX5_isBehind 9 = .ok (.getfield 29, 3) := by decide +kernel
theorem dX5_isBehind_12 : decode cX5_isBehind 12 = .ok (.iload_n 1, 1) := by decide +kernel
theorem dX5_isBehind_13 : decode cX5_isBehind 13 = .ok (.iaload, 1) := by decide +kernel
theorem dX5_isBehind_14 : decode cX5_isBehind 14 = .ok (.iload_n 2, 1) := by decide +kernel
theorem dX5_isBehind_15 : decode cX5_isBehind 15 = .ok (.if_icmp .le 7, 3) := by decide +kernel
theorem dX5_isBehind_18 : decode cX5_isBehind 18 = .ok (.iconst 1, 1) := by decide +kernel
theorem dX5_isBehind_19 : decode cX5_isBehind 19 = .ok (.goto 4, 3) := by decide +kernel
theorem dX5_isBehind_22 : decode cX5_isBehind 22 = .ok (.iconst 0, 1) := by decide +kernel
theorem dX5_isBehind_23 : decode cX5_isBehind 23 = .ok (.ireturn, 1) := by decide +kernel
def f_X5_isBehind (p1 : Int32) (p2 : Int32) (M : Mem) : Bool :=
  if (f_X5_isThere p1 M) then if (M 6 p1.toNatClampNeg) ≤ p2 then false
    else true
  else false
set_option maxRecDepth 100000 in
set_option maxHeartbeats 4000000 in
theorem k_X5_isBehind (q : ZQ) (p1 : Int32) (p2 : Int32) (M : Mem) (hp : vp_in p1 53) : Zc (zgM q) mX5_isBehind 0 0 [.inr 0, .inl p1, .inl p2] M (wB M (f_X5_isBehind p1 p2 M)) := by
  refine Zc.of (by decide) zi_X5_isBehind.1 (Nat.le_of_ble_eq_true rfl) rfl ?_
  show Zg _ _ _ _ _ _ (zlet (f_X5_isBehind p1 p2 M) (wB M)) _ _ _ _
  unfold f_X5_isBehind
  refine zg_aload_n (x := 0) dX5_isBehind_0 rfl ?_
  refine zg_iload_n (x := p1) dX5_isBehind_1 rfl ?_
  refine zg_cV1 (As := [.inl p1]) (S := []) (v := bI ((f_X5_isThere p1 M))) dX5_isBehind_2 zk_X5_92 (k_X5_isThere q p1 M hp) rfl rfl ⟨by decide, by decide⟩ ⟨by decide, by decide⟩ rfl (Nat.le_of_ble_eq_true rfl) ?_
  refine zg_st (pc' := 5) (L' := [some (.inr 0), some (.inl p1), some (.inl p2)]) (S' := [.inl (bI ((f_X5_isThere p1 M)))]) (M' := M) rfl rfl rfl rfl ?_
  refine zg_ifbe (tgt := 22) dX5_isBehind_5 rfl (fun c5 => ?_) (fun c5 => ?_)
  · refine zg_st (pc' := 8) (L' := [some (.inr 0), some (.inl p1), some (.inl p2)]) (S' := []) (M' := M) rfl rfl rfl rfl ?_
    refine zg_aload_n (x := 0) dX5_isBehind_8 rfl ?_
    refine zg_getf (v := .inr 6) dX5_isBehind_9 zf_X5_29 rfl rfl rfl ?_
    refine zg_iload_n (x := p1) dX5_isBehind_12 rfl ?_
    refine zg_iald dX5_isBehind_13 rfl hp ?_
    refine zg_iload_n (x := p2) dX5_isBehind_14 rfl ?_
    refine zg_icmpz (tgt := 22) dX5_isBehind_15 rfl rfl (fun c15 => ?_) (fun c15 => ?_)
    · refine zg_st (pc' := 22) (L' := [some (.inr 0), some (.inl p1), some (.inl p2)]) (S' := []) (M' := M) rfl rfl rfl rfl ?_
      refine zg_iconst (v := 0) dX5_isBehind_22 rfl ?_
      exact zg_iret dX5_isBehind_23 rfl rfl ⟨by decide, by decide⟩ rfl
    · refine zg_st (pc' := 18) (L' := [some (.inr 0), some (.inl p1), some (.inl p2)]) (S' := []) (M' := M) rfl rfl rfl rfl ?_
      refine zg_iconst (v := 1) dX5_isBehind_18 rfl ?_
      refine zg_goto (tgt := 23) dX5_isBehind_19 rfl ?_
      refine zg_st (pc' := 23) (L' := [some (.inr 0), some (.inl p1), some (.inl p2)]) (S' := [.inl 1]) (M' := M) rfl rfl rfl rfl ?_
      exact zg_iret dX5_isBehind_23 rfl rfl ⟨by decide, by decide⟩ rfl
  · refine zg_st (pc' := 22) (L' := [some (.inr 0), some (.inl p1), some (.inl p2)]) (S' := []) (M' := M) rfl rfl rfl rfl ?_
    refine zg_iconst (v := 0) dX5_isBehind_22 rfl ?_
    exact zg_iret dX5_isBehind_23 rfl rfl ⟨by decide, by decide⟩ rfl
theorem dX5_copy_0 : decode cX5_copy 0 = .ok (.iload_n 1, 1) := by decide +kernel
theorem dX5_copy_1 : decode cX5_copy 1 = .ok (.iconst (-1), 1) := by decide +kernel
theorem dX5_copy_2 : decode cX5_copy 2 = .ok (.if_icmp .eq 11, 3) := by decide +kernel
theorem dX5_copy_5 : decode cX5_copy 5 = .ok (.iload_n 1, 1) := by decide +kernel
theorem dX5_copy_6 : decode cX5_copy 6 = .ok (.bipush 40, 2) := by decide +kernel
theorem dX5_copy_8 : decode cX5_copy 8 = .ok (.idiv, 1) := by decide +kernel
theorem dX5_copy_9 : decode cX5_copy 9 = .ok (.iload_n 3, 1) := by decide +kernel
theorem dX5_copy_10 : decode cX5_copy 10 = .ok (.if_icmp .eq 5, 3) := by decide +kernel
theorem dX5_copy_13 : decode cX5_copy 13 = .ok (.iconst 0, 1) := by decide +kernel
theorem dX5_copy_14 : decode cX5_copy 14 = .ok (.ireturn, 1) := by decide +kernel
theorem dX5_copy_15 : decode cX5_copy 15 = .ok (.aload_n 0, 1) := by decide +kernel
theorem dX5_copy_16 : decode cX5_copy 16 = .ok (.getfield 39, 3) := by decide +kernel
theorem dX5_copy_19 : decode cX5_copy 19 = .ok (.iconst 2, 1) := by decide +kernel
theorem dX5_copy_20 : decode cX5_copy 20 = .ok (.iload_n 1, 1) := by decide +kernel
theorem dX5_copy_21 : decode cX5_copy 21 = .ok (.imul, 1) := by decide +kernel
theorem dX5_copy_22 : decode cX5_copy 22 = .ok (.iload 4, 2) := by decide +kernel
theorem dX5_copy_24 : decode cX5_copy 24 = .ok (.iadd, 1) := by decide +kernel
theorem dX5_copy_25 : decode cX5_copy 25 = .ok (.aload_n 0, 1) := by decide +kernel
theorem dX5_copy_26 : decode cX5_copy 26 = .ok (.getfield 39, 3) := by decide +kernel
theorem dX5_copy_29 : decode cX5_copy 29 = .ok (.iconst 2, 1) := by decide +kernel
theorem dX5_copy_30 : decode cX5_copy 30 = .ok (.iload_n 1, 1) := by decide +kernel
theorem dX5_copy_31 : decode cX5_copy 31 = .ok (.imul, 1) := by decide +kernel
theorem dX5_copy_32 : decode cX5_copy 32 = .ok (.iconst 1, 1) := by decide +kernel
theorem dX5_copy_33 : decode cX5_copy 33 = .ok (.iadd, 1) := by decide +kernel
theorem dX5_copy_34 : decode cX5_copy 34 = .ok (.iload 4, 2) := by decide +kernel
theorem dX5_copy_36 : decode cX5_copy 36 = .ok (.isub, 1) := by decide +kernel
theorem dX5_copy_37 : decode cX5_copy 37 = .ok (.baload, 1) := by decide +kernel
theorem dX5_copy_38 : decode cX5_copy 38 = .ok (.ifCond .eq 25, 3) := by decide +kernel
theorem dX5_copy_41 : decode cX5_copy 41 = .ok (.aload_n 0, 1) := by decide +kernel
theorem dX5_copy_42 : decode cX5_copy 42 = .ok (.iload_n 2, 1) := by decide +kernel
theorem dX5_copy_43 : decode cX5_copy 43 = .ok (.iconst 0, 1) := by decide +kernel
theorem dX5_copy_44 : decode cX5_copy 44 = .ok (.invokevirtual 82, 3) := by decide +kernel
theorem dX5_copy_47 : decode cX5_copy 47 = .ok (.ifCond .ne 16, 3) := by decide +kernel
theorem dX5_copy_50 : decode cX5_copy 50 = .ok (.aload_n 0, 1) := by decide +kernel
theorem dX5_copy_51 : decode cX5_copy 51 = .ok (.iload_n 2, 1) := by decide +kernel
theorem dX5_copy_52 : decode cX5_copy 52 = .ok (.iconst 1, 1) := by decide +kernel
theorem dX5_copy_53 : decode cX5_copy 53 = .ok (.invokevirtual 82, 3) := by decide +kernel
theorem dX5_copy_56 : decode cX5_copy 56 = .ok (.ifCond .ne 7, 3) := by decide +kernel
theorem dX5_copy_59 : decode cX5_copy 59 = .ok (.iconst 1, 1) := by decide +kernel
theorem dX5_copy_60 : decode cX5_copy 60 = .ok (.goto 4, 3) := by decide +kernel
theorem dX5_copy_63 : decode cX5_copy 63 = .ok (.iconst 0, 1) := by decide +kernel
theorem dX5_copy_64 : decode cX5_copy 64 = .ok (.bastore, 1) := by decide +kernel
theorem dX5_copy_65 : decode cX5_copy 65 = .ok (.iconst 1, 1) := by decide +kernel
theorem dX5_copy_66 : decode cX5_copy 66 = .ok (.ireturn, 1) := by decide +kernel
def f_X5_copy (p1 : Int32) (p2 : Int32) (p3 : Int32) (p4 : Int32) (M : Mem) : (Int32 × Mem) :=
  if p1 = (-1) then (0, M)
  else if (p1 / 40) = p3 then if (M 9 (((2 * p1) + 1) - p4).toNatClampNeg) = 0 then (1, (mup M 9 ((2 * p1) + p4).toNatClampNeg 0))
    else if (f_X5_isGood p2 0 M) then (1, (mup M 9 ((2 * p1) + p4).toNatClampNeg 0))
    else if (f_X5_isGood p2 1 M) then (1, (mup M 9 ((2 * p1) + p4).toNatClampNeg 0))
    else (1, (mup M 9 ((2 * p1) + p4).toNatClampNeg 1))
  else (0, M)
set_option maxRecDepth 100000 in
set_option maxHeartbeats 4000000 in
theorem k_X5_copy (q : ZQ) (p1 : Int32) (p2 : Int32) (p3 : Int32) (p4 : Int32) (M : Mem) (hp : (-1 ≤ p1.toInt ∧ p1.toInt < 120) ∧ (-1 ≤ p2.toInt ∧ p2.toInt < 120) ∧ 0 ≤ p4.toInt ∧ p4.toInt < 2) : Zc (zgM q) mX5_copy 0 0 [.inr 0, .inl p1, .inl p2, .inl p3, .inl p4] M (wIM (f_X5_copy p1 p2 p3 p4 M)) := by
  refine Zc.of (by decide) zi_X5_copy.1 (Nat.le_of_ble_eq_true rfl) rfl ?_
  show Zg _ _ _ _ _ _ (zlet (f_X5_copy p1 p2 p3 p4 M) wIM) _ _ _ _
  unfold f_X5_copy
  refine zg_iload_n (x := p1) dX5_copy_0 rfl ?_
  refine zg_iconst (v := (-1)) dX5_copy_1 rfl ?_
  refine zg_icmpz (tgt := 13) dX5_copy_2 rfl rfl (fun c2 => ?_) (fun c2 => ?_)
  · refine zg_st (pc' := 13) (L' := [some (.inr 0), some (.inl p1), some (.inl p2), some (.inl p3), some (.inl p4)]) (S' := []) (M' := M) rfl rfl rfl rfl ?_
    refine zg_iconst (v := 0) dX5_copy_13 rfl ?_
    exact zg_iret dX5_copy_14 rfl rfl ⟨by decide, by decide⟩ rfl
  · refine zg_st (pc' := 5) (L' := [some (.inr 0), some (.inl p1), some (.inl p2), some (.inl p3), some (.inl p4)]) (S' := []) (M' := M) rfl rfl rfl rfl ?_
    refine zg_iload_n (x := p1) dX5_copy_5 rfl ?_
    refine zg_bipush (v := 40) dX5_copy_6 rfl ?_
    refine zg_idiv dX5_copy_8 (by decide) ?_
    refine zg_iload_n (x := p3) dX5_copy_9 rfl ?_
    refine zg_icmpz (tgt := 15) dX5_copy_10 rfl rfl (fun c10 => ?_) (fun c10 => ?_)
    · refine zg_st (pc' := 15) (L' := [some (.inr 0), some (.inl p1), some (.inl p2), some (.inl p3), some (.inl p4)]) (S' := []) (M' := M) rfl rfl rfl rfl ?_
      refine zg_aload_n (x := 0) dX5_copy_15 rfl ?_
      refine zg_getf (v := .inr 9) dX5_copy_16 zf_X5_39 rfl rfl rfl ?_
      refine zg_iconst (v := 2) dX5_copy_19 rfl ?_
      refine zg_iload_n (x := p1) dX5_copy_20 rfl ?_
      refine zg_imul dX5_copy_21 ?_
      refine zg_iload (x := p4) dX5_copy_22 rfl ?_
      refine zg_iadd dX5_copy_24 ?_
      refine zg_aload_n (x := 0) dX5_copy_25 rfl ?_
      refine zg_getf (v := .inr 9) dX5_copy_26 zf_X5_39 rfl rfl rfl ?_
      refine zg_iconst (v := 2) dX5_copy_29 rfl ?_
      refine zg_iload_n (x := p1) dX5_copy_30 rfl ?_
      refine zg_imul dX5_copy_31 ?_
      refine zg_iconst (v := 1) dX5_copy_32 rfl ?_
      refine zg_iadd dX5_copy_33 ?_
      refine zg_iload (x := p4) dX5_copy_34 rfl ?_
      refine zg_isub dX5_copy_36 ?_
      refine zg_zald dX5_copy_37 rfl (z_cp1 hp.1 c2 hp.2.2) ?_
      refine zg_ifz (tgt := 63) dX5_copy_38 rfl rfl (fun c38 => ?_) (fun c38 => ?_)
      · refine zg_st (pc' := 63) (L' := [some (.inr 0), some (.inl p1), some (.inl p2), some (.inl p3), some (.inl p4)]) (S' := [.inl ((2 * p1) + p4), .inr 9]) (M' := M) rfl rfl rfl rfl ?_
        refine zg_iconst (v := 0) dX5_copy_63 rfl ?_
        refine zg_zast (v := 0) dX5_copy_64 rfl (z_g2 ⟨hp.1, hp.2.2⟩ c2) rfl ?_
        refine zg_iconst (v := 1) dX5_copy_65 rfl ?_
        exact zg_iret dX5_copy_66 rfl rfl ⟨by decide, by decide⟩ rfl
      · refine zg_st (pc' := 41) (L' := [some (.inr 0), some (.inl p1), some (.inl p2), some (.inl p3), some (.inl p4)]) (S' := [.inl ((2 * p1) + p4), .inr 9]) (M' := M) rfl rfl rfl rfl ?_
        refine zg_aload_n (x := 0) dX5_copy_41 rfl ?_
        refine zg_iload_n (x := p2) dX5_copy_42 rfl ?_
        refine zg_iconst (v := 0) dX5_copy_43 rfl ?_
        refine zg_cV1 (As := [.inl p2, .inl 0]) (S := [.inl ((2 * p1) + p4), .inr 9]) (v := bI ((f_X5_isGood p2 0 M))) dX5_copy_44 zk_X5_82 (k_X5_isGood q p2 0 M ⟨hp.2.1, by decide⟩) rfl rfl ⟨by decide, by decide⟩ ⟨by decide, by decide⟩ rfl (Nat.le_of_ble_eq_true rfl) ?_
        refine zg_st (pc' := 47) (L' := [some (.inr 0), some (.inl p1), some (.inl p2), some (.inl p3), some (.inl p4)]) (S' := [.inl (bI ((f_X5_isGood p2 0 M))), .inl ((2 * p1) + p4), .inr 9]) (M' := M) rfl rfl rfl rfl ?_
        refine zg_ifbn (tgt := 63) dX5_copy_47 rfl (fun c47 => ?_) (fun c47 => ?_)
        · refine zg_st (pc' := 63) (L' := [some (.inr 0), some (.inl p1), some (.inl p2), some (.inl p3), some (.inl p4)]) (S' := [.inl ((2 * p1) + p4), .inr 9]) (M' := M) rfl rfl rfl rfl ?_
          refine zg_iconst (v := 0) dX5_copy_63 rfl ?_
          refine zg_zast (v := 0) dX5_copy_64 rfl (z_g2 ⟨hp.1, hp.2.2⟩ c2) rfl ?_
          refine zg_iconst (v := 1) dX5_copy_65 rfl ?_
          exact zg_iret dX5_copy_66 rfl rfl ⟨by decide, by decide⟩ rfl
        · refine zg_st (pc' := 50) (L' := [some (.inr 0), some (.inl p1), some (.inl p2), some (.inl p3), some (.inl p4)]) (S' := [.inl ((2 * p1) + p4), .inr 9]) (M' := M) rfl rfl rfl rfl ?_
          refine zg_aload_n (x := 0) dX5_copy_50 rfl ?_
          refine zg_iload_n (x := p2) dX5_copy_51 rfl ?_
          refine zg_iconst (v := 1) dX5_copy_52 rfl ?_
          refine zg_cV1 (As := [.inl p2, .inl 1]) (S := [.inl ((2 * p1) + p4), .inr 9]) (v := bI ((f_X5_isGood p2 1 M))) dX5_copy_53 zk_X5_82 (k_X5_isGood q p2 1 M ⟨hp.2.1, by decide⟩) rfl rfl ⟨by decide, by decide⟩ ⟨by decide, by decide⟩ rfl (Nat.le_of_ble_eq_true rfl) ?_
          refine zg_st (pc' := 56) (L' := [some (.inr 0), some (.inl p1), some (.inl p2), some (.inl p3), some (.inl p4)]) (S' := [.inl (bI ((f_X5_isGood p2 1 M))), .inl ((2 * p1) + p4), .inr 9]) (M' := M) rfl rfl rfl rfl ?_
          refine zg_ifbn (tgt := 63) dX5_copy_56 rfl (fun c56 => ?_) (fun c56 => ?_)
          · refine zg_st (pc' := 63) (L' := [some (.inr 0), some (.inl p1), some (.inl p2), some (.inl p3), some (.inl p4)]) (S' := [.inl ((2 * p1) + p4), .inr 9]) (M' := M) rfl rfl rfl rfl ?_
            refine zg_iconst (v := 0) dX5_copy_63 rfl ?_
            refine zg_zast (v := 0) dX5_copy_64 rfl (z_g2 ⟨hp.1, hp.2.2⟩ c2) rfl ?_
            refine zg_iconst (v := 1) dX5_copy_65 rfl ?_
            exact zg_iret dX5_copy_66 rfl rfl ⟨by decide, by decide⟩ rfl
          · refine zg_st (pc' := 59) (L' := [some (.inr 0), some (.inl p1), some (.inl p2), some (.inl p3), some (.inl p4)]) (S' := [.inl ((2 * p1) + p4), .inr 9]) (M' := M) rfl rfl rfl rfl ?_
            refine zg_iconst (v := 1) dX5_copy_59 rfl ?_
            refine zg_goto (tgt := 64) dX5_copy_60 rfl ?_
            refine zg_st (pc' := 64) (L' := [some (.inr 0), some (.inl p1), some (.inl p2), some (.inl p3), some (.inl p4)]) (S' := [.inl 1, .inl ((2 * p1) + p4), .inr 9]) (M' := M) rfl rfl rfl rfl ?_
            refine zg_zast (v := 1) dX5_copy_64 rfl (z_g2 ⟨hp.1, hp.2.2⟩ c2) rfl ?_
            refine zg_iconst (v := 1) dX5_copy_65 rfl ?_
            exact zg_iret dX5_copy_66 rfl rfl ⟨by decide, by decide⟩ rfl
    · refine zg_st (pc' := 13) (L' := [some (.inr 0), some (.inl p1), some (.inl p2), some (.inl p3), some (.inl p4)]) (S' := []) (M' := M) rfl rfl rfl rfl ?_
      refine zg_iconst (v := 0) dX5_copy_13 rfl ?_
      exact zg_iret dX5_copy_14 rfl rfl ⟨by decide, by decide⟩ rfl
theorem dX5_isFree_0 : decode cX5_isFree 0 = .ok (.aload_n 0, 1) := by decide +kernel
theorem dX5_isFree_1 : decode cX5_isFree 1 = .ok (.iload_n 1, 1) := by decide +kernel
theorem dX5_isFree_2 : decode cX5_isFree 2 = .ok (.iload_n 2, 1) := by decide +kernel
theorem dX5_isFree_3 : decode cX5_isFree 3 = .ok (.invokestatic 166, 3) := by decide +kernel
theorem dX5_isFree_6 : decode cX5_isFree 6 = .ok (.ifCond .eq 7, 3) := by decide +kernel
theorem dX5_isFree_9 : decode cX5_isFree 9 = .ok (.iconst 0, 1) := by decide +kernel
theorem dX5_isFree_10 : decode cX5_isFree 10 = .ok (.goto 4, 3) := by decide +kernel
theorem dX5_isFree_13 : decode cX5_isFree 13 = .ok (.iconst 1, 1) := by decide +kernel
theorem dX5_isFree_14 : decode cX5_isFree 14 = .ok (.invokevirtual 74, 3) := by decide +kernel
theorem dX5_isFree_17 : decode cX5_isFree 17 = .ok (.ifCond .ne 21, 3) := by decide +kernel
theorem dX5_isFree_20 : decode cX5_isFree 20 = .ok (.aload_n 0, 1) := by decide +kernel
theorem dX5_isFree_21 : decode cX5_isFree 21 = .ok (.getfield 35, 3) := by decide +kernel
theorem dX5_isFree_24 : decode cX5_isFree 24 = .ok (.bipush 40, 2) := by decide +kernel
theorem dX5_isFree_26 : decode cX5_isFree 26 = .ok (.iload_n 1, 1) := by decide +kernel
theorem dX5_isFree_27 : decode cX5_isFree 27 = .ok (.imul, 1) := by decide +kernel
theorem dX5_isFree_28 : decode cX5_isFree 28 = .ok (.iload_n 2, 1) := by decide +kernel
theorem dX5_isFree_29 : decode cX5_isFree 29 = .ok (.iadd, 1) := by decide +kernel
theorem dX5_isFree_30 : decode cX5_isFree 30 = .ok (.baload, 1) := by decide +kernel
theorem dX5_isFree_31 : decode cX5_isFree 31 = .ok (.ifCond .ne 7, 3) := by decide +kernel
theorem dX5_isFree_34 : decode cX5_isFree 34 = .ok (.iconst 1, 1) := by decide +kernel
theorem dX5_isFree_35 : decode cX5_isFree 35 = .ok (.goto 4, 3) := by decide +kernel
theorem dX5_isFree_38 : decode cX5_isFree 38 = .ok (.iconst 0, 1) := by decide +kernel
theorem dX5_isFree_39 : decode cX5_isFree 39 = .ok (.ireturn, 1) := by decide +kernel
def f_X5_isFree (p1 : Int32) (p2 : Int32) (M : Mem) : (Bool × Mem) :=
  if (f_X5_isCell p1 p2) then if ¬ ((mup M 0 0 0) 8 ((40 * p1) + p2).toNatClampNeg) = 0 then (false, (mup M 0 0 0))
    else (true, (mup M 0 0 0))
  else (false, (mup M 0 0 1))
set_option maxRecDepth 100000 in
set_option maxHeartbeats 4000000 in
theorem k_X5_isFree (q : ZQ) (p1 : Int32) (p2 : Int32) (M : Mem) : Zc (zgM q) mX5_isFree 0 0 [.inr 0, .inl p1, .inl p2] M (wBM (f_X5_isFree p1 p2 M)) := by
  refine Zc.of (by decide) zi_X5_isFree.1 (Nat.le_of_ble_eq_true rfl) rfl ?_
  show Zg _ _ _ _ _ _ (zlet (f_X5_isFree p1 p2 M) wBM) _ _ _ _
  unfold f_X5_isFree
  refine zg_aload_n (x := 0) dX5_isFree_0 rfl ?_
  refine zg_iload_n (x := p1) dX5_isFree_1 rfl ?_
  refine zg_iload_n (x := p2) dX5_isFree_2 rfl ?_
  refine zg_cS1 (As := [.inl p1, .inl p2]) (S := [.inr 0]) (v := bI ((f_X5_isCell p1 p2))) dX5_isFree_3 zk_X5_166 (k_X5_isCell q p1 p2 M) rfl ⟨by decide, by decide⟩ ⟨by decide, by decide⟩ rfl (Nat.le_of_ble_eq_true rfl) ?_
  refine zg_st (pc' := 6) (L' := [some (.inr 0), some (.inl p1), some (.inl p2)]) (S' := [.inl (bI ((f_X5_isCell p1 p2))), .inr 0]) (M' := M) rfl rfl rfl rfl ?_
  refine zg_ifbe (tgt := 13) dX5_isFree_6 rfl (fun c6 => ?_) (fun c6 => ?_)
  · refine zg_st (pc' := 9) (L' := [some (.inr 0), some (.inl p1), some (.inl p2)]) (S' := [.inr 0]) (M' := M) rfl rfl rfl rfl ?_
    refine zg_iconst (v := 0) dX5_isFree_9 rfl ?_
    refine zg_goto (tgt := 14) dX5_isFree_10 rfl ?_
    refine zg_st (pc' := 14) (L' := [some (.inr 0), some (.inl p1), some (.inl p2)]) (S' := [.inl 0, .inr 0]) (M' := M) rfl rfl rfl rfl ?_
    refine zg_cV1 (As := [.inl 0]) (S := []) (v := 0) (N0 := (mup M 0 0 0)) dX5_isFree_14 zk_X5_74 (k_X5_refused q 0 M) rfl rfl ⟨by decide, by decide⟩ ⟨by decide, by decide⟩ rfl (Nat.le_of_ble_eq_true rfl) ?_
    refine zg_st (pc' := 17) (L' := [some (.inr 0), some (.inl p1), some (.inl p2)]) (S' := [.inl 0]) (M' := (mup M 0 0 0)) rfl rfl rfl rfl ?_
    refine zg_jf (tgt := 38) dX5_isFree_17 rfl (show ¬ (¬ (0 : Int32) = 0) from by decide) ?_
    refine zg_st (pc' := 20) (L' := [some (.inr 0), some (.inl p1), some (.inl p2)]) (S' := []) (M' := (mup M 0 0 0)) rfl rfl rfl rfl ?_
    refine zg_aload_n (x := 0) dX5_isFree_20 rfl ?_
    refine zg_getf (v := .inr 8) dX5_isFree_21 zf_X5_35 rfl rfl rfl ?_
    refine zg_bipush (v := 40) dX5_isFree_24 rfl ?_
    refine zg_iload_n (x := p1) dX5_isFree_26 rfl ?_
    refine zg_imul dX5_isFree_27 ?_
    refine zg_iload_n (x := p2) dX5_isFree_28 rfl ?_
    refine zg_iadd dX5_isFree_29 ?_
    refine zg_zald dX5_isFree_30 rfl (z_c120 c6) ?_
    refine zg_ifz (tgt := 38) dX5_isFree_31 rfl rfl (fun c31 => ?_) (fun c31 => ?_)
    · refine zg_st (pc' := 38) (L' := [some (.inr 0), some (.inl p1), some (.inl p2)]) (S' := []) (M' := (mup M 0 0 0)) rfl rfl rfl rfl ?_
      refine zg_iconst (v := 0) dX5_isFree_38 rfl ?_
      exact zg_iret dX5_isFree_39 rfl rfl ⟨by decide, by decide⟩ rfl
    · refine zg_st (pc' := 34) (L' := [some (.inr 0), some (.inl p1), some (.inl p2)]) (S' := []) (M' := (mup M 0 0 0)) rfl rfl rfl rfl ?_
      refine zg_iconst (v := 1) dX5_isFree_34 rfl ?_
      refine zg_goto (tgt := 39) dX5_isFree_35 rfl ?_
      refine zg_st (pc' := 39) (L' := [some (.inr 0), some (.inl p1), some (.inl p2)]) (S' := [.inl 1]) (M' := (mup M 0 0 0)) rfl rfl rfl rfl ?_
      exact zg_iret dX5_isFree_39 rfl rfl ⟨by decide, by decide⟩ rfl
  · refine zg_st (pc' := 13) (L' := [some (.inr 0), some (.inl p1), some (.inl p2)]) (S' := [.inr 0]) (M' := M) rfl rfl rfl rfl ?_
    refine zg_iconst (v := 1) dX5_isFree_13 rfl ?_
    refine zg_cV1 (As := [.inl 1]) (S := []) (v := 1) (N0 := (mup M 0 0 1)) dX5_isFree_14 zk_X5_74 (k_X5_refused q 1 M) rfl rfl ⟨by decide, by decide⟩ ⟨by decide, by decide⟩ rfl (Nat.le_of_ble_eq_true rfl) ?_
    refine zg_st (pc' := 17) (L' := [some (.inr 0), some (.inl p1), some (.inl p2)]) (S' := [.inl 1]) (M' := (mup M 0 0 1)) rfl rfl rfl rfl ?_
    refine zg_jt (tgt := 38) dX5_isFree_17 rfl (show ¬ (1 : Int32) = 0 from by decide) ?_
    refine zg_st (pc' := 38) (L' := [some (.inr 0), some (.inl p1), some (.inl p2)]) (S' := []) (M' := (mup M 0 0 1)) rfl rfl rfl rfl ?_
    refine zg_iconst (v := 0) dX5_isFree_38 rfl ?_
    exact zg_iret dX5_isFree_39 rfl rfl ⟨by decide, by decide⟩ rfl
theorem dX5_free_0 : decode cX5_free 0 = .ok (.aload_n 0, 1) := by decide +kernel
theorem dX5_free_1 : decode cX5_free 1 = .ok (.iload_n 1, 1) := by decide +kernel
theorem dX5_free_2 : decode cX5_free 2 = .ok (.iconst 0, 1) := by decide +kernel
theorem dX5_free_3 : decode cX5_free 3 = .ok (.iconst 2, 1) := by decide +kernel
theorem dX5_free_4 : decode cX5_free 4 = .ok (.invokestatic 66, 3) := by decide +kernel
theorem dX5_free_7 : decode cX5_free 7 = .ok (.ifCond .eq 7, 3) := by decide +kernel
theorem dX5_free_10 : decode cX5_free 10 = .ok (.iconst 0, 1) := by decide +kernel
theorem dX5_free_11 : decode cX5_free 11 = .ok (.goto 4, 3) := by decide +kernel
theorem dX5_free_14 : decode cX5_free 14 = .ok (.iconst 1, 1) := by decide +kernel
theorem dX5_free_15 : decode cX5_free 15 = .ok (.invokevirtual 74, 3) := by decide +kernel
theorem dX5_free_18 : decode cX5_free 18 = .ok (.ifCond .eq 7, 3) := by decide +kernel
theorem dX5_free_21 : decode cX5_free 21 = .ok (.iconst 0, 1) := by decide +kernel
theorem dX5_free_22 : decode cX5_free 22 = .ok (.goto 12, 3) := by decide +kernel
theorem dX5_free_25 : decode cX5_free 25 = .ok (.aload_n 0, 1) := by decide +kernel
theorem dX5_free_26 : decode cX5_free 26 = .ok (.iload_n 1, 1) := by decide +kernel
theorem dX5_free_27 : decode cX5_free 27 = .ok (.aload_n 0, 1) := by decide +kernel
theorem dX5_free_28 : decode cX5_free 28 = .ok (.getfield 35, 3) := by decide +kernel
theorem dX5_free_31 : decode cX5_free 31 = .ok (.invokevirtual 108, 3) := by decide +kernel
theorem dX5_free_34 : decode cX5_free 34 = .ok (.ireturn, 1) := by decide +kernel
def f_X5_free (p1 : Int32) (M : Mem) : (Int32 × Mem) :=
  if (f_X5_in p1 0 2) then ((f_X5_countFree_8 p1 (mup M 0 0 0)), (mup M 0 0 0))
  else (0, (mup M 0 0 1))
set_option maxRecDepth 100000 in
set_option maxHeartbeats 4000000 in
theorem k_X5_free (q : ZQ) (p1 : Int32) (M : Mem) : Zc (zgM q) mX5_free 0 0 [.inr 0, .inl p1] M (wIM (f_X5_free p1 M)) := by
  refine Zc.of (by decide) zi_X5_free.1 (Nat.le_of_ble_eq_true rfl) rfl ?_
  show Zg _ _ _ _ _ _ (zlet (f_X5_free p1 M) wIM) _ _ _ _
  unfold f_X5_free
  refine zg_aload_n (x := 0) dX5_free_0 rfl ?_
  refine zg_iload_n (x := p1) dX5_free_1 rfl ?_
  refine zg_iconst (v := 0) dX5_free_2 rfl ?_
  refine zg_iconst (v := 2) dX5_free_3 rfl ?_
  refine zg_cS1 (As := [.inl p1, .inl 0, .inl 2]) (S := [.inr 0]) (v := bI ((f_X5_in p1 0 2))) dX5_free_4 zk_X5_66 (k_X5_in q p1 0 2 M) rfl ⟨by decide, by decide⟩ ⟨by decide, by decide⟩ rfl (Nat.le_of_ble_eq_true rfl) ?_
  refine zg_st (pc' := 7) (L' := [some (.inr 0), some (.inl p1)]) (S' := [.inl (bI ((f_X5_in p1 0 2))), .inr 0]) (M' := M) rfl rfl rfl rfl ?_
  refine zg_ifbe (tgt := 14) dX5_free_7 rfl (fun c7 => ?_) (fun c7 => ?_)
  · refine zg_st (pc' := 10) (L' := [some (.inr 0), some (.inl p1)]) (S' := [.inr 0]) (M' := M) rfl rfl rfl rfl ?_
    refine zg_iconst (v := 0) dX5_free_10 rfl ?_
    refine zg_goto (tgt := 15) dX5_free_11 rfl ?_
    refine zg_st (pc' := 15) (L' := [some (.inr 0), some (.inl p1)]) (S' := [.inl 0, .inr 0]) (M' := M) rfl rfl rfl rfl ?_
    refine zg_cV1 (As := [.inl 0]) (S := []) (v := 0) (N0 := (mup M 0 0 0)) dX5_free_15 zk_X5_74 (k_X5_refused q 0 M) rfl rfl ⟨by decide, by decide⟩ ⟨by decide, by decide⟩ rfl (Nat.le_of_ble_eq_true rfl) ?_
    refine zg_st (pc' := 18) (L' := [some (.inr 0), some (.inl p1)]) (S' := [.inl 0]) (M' := (mup M 0 0 0)) rfl rfl rfl rfl ?_
    refine zg_jt (tgt := 25) dX5_free_18 rfl (show (0 : Int32) = 0 from by decide) ?_
    refine zg_st (pc' := 25) (L' := [some (.inr 0), some (.inl p1)]) (S' := []) (M' := (mup M 0 0 0)) rfl rfl rfl rfl ?_
    refine zg_aload_n (x := 0) dX5_free_25 rfl ?_
    refine zg_iload_n (x := p1) dX5_free_26 rfl ?_
    refine zg_aload_n (x := 0) dX5_free_27 rfl ?_
    refine zg_getf (v := .inr 8) dX5_free_28 zf_X5_35 rfl rfl rfl ?_
    refine zg_cV1 (As := [.inl p1, .inr 8]) (S := []) (v := (f_X5_countFree_8 p1 (mup M 0 0 0))) dX5_free_31 zk_X5_108 (k_X5_countFree_8 q p1 (mup M 0 0 0) (z_in3 c7)) rfl rfl ⟨by decide, by decide⟩ ⟨by decide, by decide⟩ rfl (Nat.le_of_ble_eq_true rfl) ?_
    refine zg_st (pc' := 34) (L' := [some (.inr 0), some (.inl p1)]) (S' := [.inl (f_X5_countFree_8 p1 (mup M 0 0 0))]) (M' := (mup M 0 0 0)) rfl rfl rfl rfl ?_
    exact zg_iret dX5_free_34 rfl rfl ⟨by decide, by decide⟩ rfl
  · refine zg_st (pc' := 14) (L' := [some (.inr 0), some (.inl p1)]) (S' := [.inr 0]) (M' := M) rfl rfl rfl rfl ?_
    refine zg_iconst (v := 1) dX5_free_14 rfl ?_
    refine zg_cV1 (As := [.inl 1]) (S := []) (v := 1) (N0 := (mup M 0 0 1)) dX5_free_15 zk_X5_74 (k_X5_refused q 1 M) rfl rfl ⟨by decide, by decide⟩ ⟨by decide, by decide⟩ rfl (Nat.le_of_ble_eq_true rfl) ?_
    refine zg_st (pc' := 18) (L' := [some (.inr 0), some (.inl p1)]) (S' := [.inl 1]) (M' := (mup M 0 0 1)) rfl rfl rfl rfl ?_
    refine zg_jf (tgt := 25) dX5_free_18 rfl (show ¬ ((1 : Int32) = 0) from by decide) ?_
    refine zg_st (pc' := 21) (L' := [some (.inr 0), some (.inl p1)]) (S' := []) (M' := (mup M 0 0 1)) rfl rfl rfl rfl ?_
    refine zg_iconst (v := 0) dX5_free_21 rfl ?_
    refine zg_goto (tgt := 34) dX5_free_22 rfl ?_
    refine zg_st (pc' := 34) (L' := [some (.inr 0), some (.inl p1)]) (S' := [.inl 0]) (M' := (mup M 0 0 1)) rfl rfl rfl rfl ?_
    exact zg_iret dX5_free_34 rfl rfl ⟨by decide, by decide⟩ rfl
theorem dX5_healAll_0 : decode cX5_healAll 0 = .ok (.aload_n 0, 1) := by decide +kernel
theorem dX5_healAll_1 : decode cX5_healAll 1 = .ok (.iload_n 1, 1) := by decide +kernel
theorem dX5_healAll_2 : decode cX5_healAll 2 = .ok (.invokevirtual 95, 3) := by decide +kernel
theorem dX5_healAll_5 : decode cX5_healAll 5 = .ok (.ifCond .eq 53, 3) := by decide +kernel
theorem dX5_healAll_8 : decode cX5_healAll 8 = .ok (.aload_n 0, 1) := by decide +kernel
theorem dX5_healAll_9 : decode cX5_healAll 9 = .ok (.aload_n 0, 1) := by decide +kernel
theorem dX5_healAll_10 : decode cX5_healAll 10 = .ok (.getfield 23, 3) := by decide +kernel
theorem dX5_healAll_13 : decode cX5_healAll 13 = .ok (.iload_n 1, 1) := by decide +kernel
theorem dX5_healAll_14 : decode cX5_healAll 14 = .ok (.iaload, 1) := by decide +kernel
theorem dX5_healAll_15 : decode cX5_healAll 15 = .ok (.iconst 0, 1) := by decide +kernel
theorem dX5_healAll_16 : decode cX5_healAll 16 = .ok (.invokevirtual 88, 3) := by decide +kernel
theorem dX5_healAll_19 : decode cX5_healAll 19 = .ok (.aload_n 0, 1) := by decide +kernel
theorem dX5_healAll_20 : decode cX5_healAll 20 = .ok (.aload_n 0, 1) := by decide +kernel
theorem dX5_healAll_21 : decode cX5_healAll 21 = .ok (.getfield 23, 3) := by decide +kernel
theorem dX5_healAll_24 : decode cX5_healAll 24 = .ok (.iload_n 1, 1) := by decide +kernel
theorem dX5_healAll_25 : decode cX5_healAll 25 = .ok (.iaload, 1) := by decide +kernel
theorem dX5_healAll_26 : decode cX5_healAll 26 = .ok (.iconst 1, 1) := by decide +kernel
theorem dX5_healAll_27 : decode cX5_healAll 27 = .ok (.invokevirtual 88, 3) := by decide +kernel
theorem dX5_healAll_30 : decode cX5_healAll 30 = .ok (.iadd, 1) := by decide +kernel
theorem dX5_healAll_31 : decode cX5_healAll 31 = .ok (.aload_n 0, 1) := by decide +kernel
theorem dX5_healAll_32 : decode cX5_healAll 32 = .ok (.aload_n 0, 1) := by decide +kernel
theorem dX5_healAll_33 : decode cX5_healAll 33 = .ok (.getfield 26, 3) := by decide +kernel
theorem dX5_healAll_36 : decode cX5_healAll 36 = .ok (.iload_n 1, 1) := by decide +kernel
theorem dX5_healAll_37 : decode cX5_healAll 37 = .ok (.iaload, 1) := by decide +kernel
theorem dX5_healAll_38 : decode cX5_healAll 38 = .ok (.iconst 0, 1) := by decide +kernel
theorem dX5_healAll_39 : decode cX5_healAll 39 = .ok (.invokevirtual 88, 3) := by decide +kernel
theorem dX5_healAll_42 : decode cX5_healAll 42 = .ok (.iadd, 1) := by decide +kernel
theorem dX5_healAll_43 : decode cX5_healAll 43 = .ok (.aload_n 0, 1) := by decide +kernel
theorem dX5_healAll_44 : decode cX5_healAll 44 = .ok (.aload_n 0, 1) := by decide +kernel
theorem dX5_healAll_45 : decode cX5_healAll 45 = .ok (.getfield 26, 3) := by decide +kernel
theorem dX5_healAll_48 : decode cX5_healAll 48 = .ok (.iload_n 1, 1) := by decide +kernel
theorem dX5_healAll_49 : decode cX5_healAll 49 = .ok (.iaload, 1) := by decide +kernel
theorem dX5_healAll_50 : decode cX5_healAll 50 = .ok (.iconst 1, 1) := by decide +kernel
theorem dX5_healAll_51 : decode cX5_healAll 51 = .ok (.invokevirtual 88, 3) := by decide +kernel
theorem dX5_healAll_54 : decode cX5_healAll 54 = .ok (.iadd, 1) := by decide +kernel
theorem dX5_healAll_55 : decode cX5_healAll 55 = .ok (.goto 4, 3) := by decide +kernel
theorem dX5_healAll_58 : decode cX5_healAll 58 = .ok (.iconst 0, 1) := by decide +kernel
theorem dX5_healAll_59 : decode cX5_healAll 59 = .ok (.ireturn, 1) := by decide +kernel
def f_X5_healAll (p1 : Int32) (M : Mem) : (Int32 × Mem) :=
  if (f_X5_isReadable p1 M) then zlet (f_X5_heal (M 4 p1.toNatClampNeg) 0 M) (fun q1 =>
    zlet (f_X5_heal (q1.2 4 p1.toNatClampNeg) 1 q1.2) (fun q2 =>
      zlet (f_X5_heal (q2.2 5 p1.toNatClampNeg) 0 q2.2) (fun q3 =>
        zlet (f_X5_heal (q3.2 5 p1.toNatClampNeg) 1 q3.2) (fun q4 =>
          ((((q1.1 + q2.1) + q3.1) + q4.1), q4.2)))))
  else (0, M)
set_option maxRecDepth 100000 in
set_option maxHeartbeats 4000000 in
theorem k_X5_healAll (q : ZQ) (p1 : Int32) (M : Mem) (hp : vp_in p1 53 ∧ PlM M) : Zc (zgM q) mX5_healAll 0 0 [.inr 0, .inl p1] M (wIM (f_X5_healAll p1 M)) := by
  refine Zc.of (by decide) zi_X5_healAll.1 (Nat.le_of_ble_eq_true rfl) rfl ?_
  show Zg _ _ _ _ _ _ (zlet (f_X5_healAll p1 M) wIM) _ _ _ _
  unfold f_X5_healAll
  refine zg_aload_n (x := 0) dX5_healAll_0 rfl ?_
  refine zg_iload_n (x := p1) dX5_healAll_1 rfl ?_
  refine zg_cV1 (As := [.inl p1]) (S := []) (v := bI ((f_X5_isReadable p1 M))) dX5_healAll_2 zk_X5_95 (k_X5_isReadable q p1 M hp) rfl rfl ⟨by decide, by decide⟩ ⟨by decide, by decide⟩ rfl (Nat.le_of_ble_eq_true rfl) ?_
  refine zg_st (pc' := 5) (L' := [some (.inr 0), some (.inl p1)]) (S' := [.inl (bI ((f_X5_isReadable p1 M)))]) (M' := M) rfl rfl rfl rfl ?_
  refine zg_ifbe (tgt := 58) dX5_healAll_5 rfl (fun c5 => ?_) (fun c5 => ?_)
  · refine zg_st (pc' := 8) (L' := [some (.inr 0), some (.inl p1)]) (S' := []) (M' := M) rfl rfl rfl rfl ?_
    refine zg_aload_n (x := 0) dX5_healAll_8 rfl ?_
    refine zg_aload_n (x := 0) dX5_healAll_9 rfl ?_
    refine zg_getf (v := .inr 4) dX5_healAll_10 zf_X5_23 rfl rfl rfl ?_
    refine zg_iload_n (x := p1) dX5_healAll_13 rfl ?_
    refine zg_iald dX5_healAll_14 rfl hp.1 ?_
    refine zg_iconst (v := 0) dX5_healAll_15 rfl ?_
    refine zg_cVIM (As := [.inl (M 4 p1.toNatClampNeg), .inl 0]) (S := []) dX5_healAll_16 zk_X5_88 (k_X5_heal q (M 4 p1.toNatClampNeg) 0 M (zPl_at (hp.2).1 hp.1 (by decide))) rfl rfl ⟨by decide, by decide⟩ ⟨by decide, by decide⟩ rfl (Nat.le_of_ble_eq_true rfl) (fun q1 e_q1 => ?_)
    try dsimp only
    refine zg_st (pc' := 19) (L' := [some (.inr 0), some (.inl p1)]) (S' := [.inl q1.1]) (M' := q1.2) rfl rfl rfl rfl ?_
    refine zg_aload_n (x := 0) dX5_healAll_19 rfl ?_
    refine zg_aload_n (x := 0) dX5_healAll_20 rfl ?_
    refine zg_getf (v := .inr 4) dX5_healAll_21 zf_X5_23 rfl rfl rfl ?_
    refine zg_iload_n (x := p1) dX5_healAll_24 rfl ?_
    refine zg_iald dX5_healAll_25 rfl hp.1 ?_
    refine zg_iconst (v := 1) dX5_healAll_26 rfl ?_
    refine zg_cVIM (As := [.inl (q1.2 4 p1.toNatClampNeg), .inl 1]) (S := [.inl q1.1]) dX5_healAll_27 zk_X5_88 (k_X5_heal q (q1.2 4 p1.toNatClampNeg) 1 q1.2 (zPl_at (sp_healE e_q1 hp.2).1 hp.1 (by decide))) rfl rfl ⟨by decide, by decide⟩ ⟨by decide, by decide⟩ rfl (Nat.le_of_ble_eq_true rfl) (fun q2 e_q2 => ?_)
    try dsimp only
    refine zg_st (pc' := 30) (L' := [some (.inr 0), some (.inl p1)]) (S' := [.inl q2.1, .inl q1.1]) (M' := q2.2) rfl rfl rfl rfl ?_
    refine zg_iadd dX5_healAll_30 ?_
    refine zg_aload_n (x := 0) dX5_healAll_31 rfl ?_
    refine zg_aload_n (x := 0) dX5_healAll_32 rfl ?_
    refine zg_getf (v := .inr 5) dX5_healAll_33 zf_X5_26 rfl rfl rfl ?_
    refine zg_iload_n (x := p1) dX5_healAll_36 rfl ?_
    refine zg_iald dX5_healAll_37 rfl hp.1 ?_
    refine zg_iconst (v := 0) dX5_healAll_38 rfl ?_
    refine zg_cVIM (As := [.inl (q2.2 5 p1.toNatClampNeg), .inl 0]) (S := [.inl (q1.1 + q2.1)]) dX5_healAll_39 zk_X5_88 (k_X5_heal q (q2.2 5 p1.toNatClampNeg) 0 q2.2 (zPl_at (sp_healE e_q2 (sp_healE e_q1 hp.2)).2 hp.1 (by decide))) rfl rfl ⟨by decide, by decide⟩ ⟨by decide, by decide⟩ rfl (Nat.le_of_ble_eq_true rfl) (fun q3 e_q3 => ?_)
    try dsimp only
    refine zg_st (pc' := 42) (L' := [some (.inr 0), some (.inl p1)]) (S' := [.inl q3.1, .inl (q1.1 + q2.1)]) (M' := q3.2) rfl rfl rfl rfl ?_
    refine zg_iadd dX5_healAll_42 ?_
    refine zg_aload_n (x := 0) dX5_healAll_43 rfl ?_
    refine zg_aload_n (x := 0) dX5_healAll_44 rfl ?_
    refine zg_getf (v := .inr 5) dX5_healAll_45 zf_X5_26 rfl rfl rfl ?_
    refine zg_iload_n (x := p1) dX5_healAll_48 rfl ?_
    refine zg_iald dX5_healAll_49 rfl hp.1 ?_
    refine zg_iconst (v := 1) dX5_healAll_50 rfl ?_
    refine zg_cVIM (As := [.inl (q3.2 5 p1.toNatClampNeg), .inl 1]) (S := [.inl ((q1.1 + q2.1) + q3.1)]) dX5_healAll_51 zk_X5_88 (k_X5_heal q (q3.2 5 p1.toNatClampNeg) 1 q3.2 (zPl_at (sp_healE e_q3 (sp_healE e_q2 (sp_healE e_q1 hp.2))).2 hp.1 (by decide))) rfl rfl ⟨by decide, by decide⟩ ⟨by decide, by decide⟩ rfl (Nat.le_of_ble_eq_true rfl) (fun q4 e_q4 => ?_)
    try dsimp only
    refine zg_st (pc' := 54) (L' := [some (.inr 0), some (.inl p1)]) (S' := [.inl q4.1, .inl ((q1.1 + q2.1) + q3.1)]) (M' := q4.2) rfl rfl rfl rfl ?_
    refine zg_iadd dX5_healAll_54 ?_
    refine zg_goto (tgt := 59) dX5_healAll_55 rfl ?_
    refine zg_st (pc' := 59) (L' := [some (.inr 0), some (.inl p1)]) (S' := [.inl (((q1.1 + q2.1) + q3.1) + q4.1)]) (M' := q4.2) rfl rfl rfl rfl ?_
    exact zg_iret dX5_healAll_59 rfl rfl ⟨by decide, by decide⟩ rfl
  · refine zg_st (pc' := 58) (L' := [some (.inr 0), some (.inl p1)]) (S' := []) (M' := M) rfl rfl rfl rfl ?_
    refine zg_iconst (v := 0) dX5_healAll_58 rfl ?_
    exact zg_iret dX5_healAll_59 rfl rfl ⟨by decide, by decide⟩ rfl
theorem dX5_healed_0 : decode cX5_healed 0 = .ok (.aload_n 0, 1) := by decide +kernel
theorem dX5_healed_1 : decode cX5_healed 1 = .ok (.aload_n 0, 1) := by decide +kernel
theorem dX5_healed_2 : decode cX5_healed 2 = .ok (.getfield 85, 3) := by decide +kernel
theorem dX5_healed_5 : decode cX5_healed 5 = .ok (.invokevirtual 149, 3) := by decide +kernel
theorem dX5_healed_8 : decode cX5_healed 8 = .ok (.ireturn, 1) := by decide +kernel
def f_X5_healed (M : Mem) : (Int32 × Mem) :=
  ((M 0 2), (mup M 0 0 0))
set_option maxRecDepth 100000 in
set_option maxHeartbeats 4000000 in
theorem k_X5_healed (q : ZQ) (M : Mem) : Zc (zgM q) mX5_healed 0 0 [.inr 0] M (wIM (f_X5_healed M)) := by
  refine Zc.of (by decide) zi_X5_healed.1 (Nat.le_of_ble_eq_true rfl) rfl ?_
  show Zg _ _ _ _ _ _ (zlet (f_X5_healed M) wIM) _ _ _ _
  unfold f_X5_healed
  refine zg_aload_n (x := 0) dX5_healed_0 rfl ?_
  refine zg_aload_n (x := 0) dX5_healed_1 rfl ?_
  refine zg_getf (v := .inl (M 0 2)) dX5_healed_2 zf_X5_85 rfl rfl rfl ?_
  refine zg_cV1 (As := [.inl (M 0 2)]) (S := []) (v := (M 0 2)) (N0 := (mup M 0 0 0)) dX5_healed_5 zk_X5_149 (k_X5_fine q (M 0 2) M) rfl rfl ⟨by decide, by decide⟩ ⟨by decide, by decide⟩ rfl (Nat.le_of_ble_eq_true rfl) ?_
  refine zg_st (pc' := 8) (L' := [some (.inr 0)]) (S' := [.inl (M 0 2)]) (M' := (mup M 0 0 0)) rfl rfl rfl rfl ?_
  exact zg_iret dX5_healed_8 rfl rfl ⟨by decide, by decide⟩ rfl
