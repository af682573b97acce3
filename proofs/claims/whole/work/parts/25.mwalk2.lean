theorem dX5_read_0 : decode cX5_read 0 = .ok (.iload_n 1, 1) := by decide +kernel
theorem dX5_read_1 : decode cX5_read 1 = .ok (.iload_n 2, 1) := by decide +kernel
theorem dX5_read_2 : decode cX5_read 2 = .ok (.invokestatic 70, 3) := by decide +kernel
theorem dX5_read_5 : decode cX5_read 5 = .ok (.istore_n 3, 1) := by decide +kernel
theorem dX5_read_6 : decode cX5_read 6 = .ok (.iload_n 3, 1) := by decide +kernel
theorem dX5_read_7 : decode cX5_read 7 = .ok (.ifCond .eq 22, 3) := by decide +kernel
theorem dX5_read_10 : decode cX5_read 10 = .ok (.aload_n 0, 1) := by decide +kernel
theorem dX5_read_11 : decode cX5_read 11 = .ok (.getfield 20, 3) := by decide +kernel
theorem dX5_read_14 : decode cX5_read 14 = .ok (.bipush 12, 2) := by decide +kernel
theorem dX5_read_16 : decode cX5_read 16 = .ok (.iload_n 1, 1) := by decide +kernel
theorem dX5_read_17 : decode cX5_read 17 = .ok (.imul, 1) := by decide +kernel
theorem dX5_read_18 : decode cX5_read 18 = .ok (.iload_n 2, 1) := by decide +kernel
theorem dX5_read_19 : decode cX5_read 19 = .ok (.iadd, 1) := by decide +kernel
theorem dX5_read_20 : decode cX5_read 20 = .ok (.iaload, 1) := by decide +kernel
theorem dX5_read_21 : decode cX5_read 21 = .ok (.iconst (-1), 1) := by decide +kernel
theorem dX5_read_22 : decode cX5_read 22 = .ok (.if_icmp .eq 7, 3) := by decide +kernel
theorem dX5_read_25 : decode cX5_read 25 = .ok (.iconst 1, 1) := by decide +kernel
theorem dX5_read_26 : decode cX5_read 26 = .ok (.goto 4, 3) := by decide +kernel
theorem dX5_read_29 : decode cX5_read 29 = .ok (.iconst 0, 1) := by decide +kernel
theorem dX5_read_30 : decode cX5_read 30 = .ok (.istore 4, 2) := by decide +kernel
theorem dX5_read_32 : decode cX5_read 32 = .ok (.aload_n 0, 1) := by decide +kernel
theorem dX5_read_33 : decode cX5_read 33 = .ok (.iload_n 3, 1) := by decide +kernel
theorem dX5_read_34 : decode cX5_read 34 = .ok (.ifCond .ne 7, 3) := by decide +kernel
theorem dX5_read_37 : decode cX5_read 37 = .ok (.iconst 1, 1) := by decide +kernel
theorem dX5_read_38 : decode cX5_read 38 = .ok (.goto 22, 3) := by decide +kernel
theorem dX5_read_41 : decode cX5_read 41 = .ok (.iload 4, 2) := by decide +kernel
theorem dX5_read_43 : decode cX5_read 43 = .ok (.ifCond .ne 16, 3) := by decide +kernel
theorem dX5_read_46 : decode cX5_read 46 = .ok (.aload_n 0, 1) := by decide +kernel
theorem dX5_read_47 : decode cX5_read 47 = .ok (.iload_n 1, 1) := by decide +kernel
theorem dX5_read_48 : decode cX5_read 48 = .ok (.iload_n 2, 1) := by decide +kernel
theorem dX5_read_49 : decode cX5_read 49 = .ok (.invokevirtual 98, 3) := by decide +kernel
theorem dX5_read_52 : decode cX5_read 52 = .ok (.ifCond .eq 7, 3) := by decide +kernel
theorem dX5_read_55 : decode cX5_read 55 = .ok (.iconst 2, 1) := by decide +kernel
theorem dX5_read_56 : decode cX5_read 56 = .ok (.goto 4, 3) := by decide +kernel
theorem dX5_read_59 : decode cX5_read 59 = .ok (.iconst 0, 1) := by decide +kernel
theorem dX5_read_60 : decode cX5_read 60 = .ok (.invokevirtual 74, 3) := by decide +kernel
theorem dX5_read_63 : decode cX5_read 63 = .ok (.ifCond .eq 5, 3) := by decide +kernel
theorem dX5_read_66 : decode cX5_read 66 = .ok (.iconst 0, 1) := by decide +kernel
theorem dX5_read_67 : decode cX5_read 67 = .ok (.ireturn, 1) := by decide +kernel
theorem dX5_read_68 : decode cX5_read 68 = .ok (.bipush 12, 2) := by decide +kernel
theorem dX5_read_70 : decode cX5_read 70 = .ok (.iload_n 1, 1) := by decide +kernel
theorem dX5_read_71 : decode cX5_read 71 = .ok (.imul, 1) := by decide +kernel
theorem dX5_read_72 : decode cX5_read 72 = .ok (.iload_n 2, 1) := by decide +kernel
theorem dX5_read_73 : decode cX5_read 73 = .ok (.iadd, 1) := by decide +kernel
theorem dX5_read_74 : decode cX5_read 74 = .ok (.istore 5, 2) := by decide +kernel
theorem dX5_read_76 : decode cX5_read 76 = .ok (.iload 4, 2) := by decide +kernel
theorem dX5_read_78 : decode cX5_read 78 = .ok (.ifCond .ne 23, 3) := by decide +kernel
theorem dX5_read_81 : decode cX5_read 81 = .ok (.aload_n 0, 1) := by decide +kernel
theorem dX5_read_82 : decode cX5_read 82 = .ok (.bipush 52, 2) := by decide +kernel
theorem dX5_read_84 : decode cX5_read 84 = .ok (.invokevirtual 101, 3) := by decide +kernel
theorem dX5_read_87 : decode cX5_read 87 = .ok (.aload_n 0, 1) := by decide +kernel
theorem dX5_read_88 : decode cX5_read 88 = .ok (.bipush 48, 2) := by decide +kernel
theorem dX5_read_90 : decode cX5_read 90 = .ok (.iload_n 1, 1) := by decide +kernel
theorem dX5_read_91 : decode cX5_read 91 = .ok (.iadd, 1) := by decide +kernel
theorem dX5_read_92 : decode cX5_read 92 = .ok (.invokevirtual 101, 3) := by decide +kernel
theorem dX5_read_95 : decode cX5_read 95 = .ok (.aload_n 0, 1) := by decide +kernel
theorem dX5_read_96 : decode cX5_read 96 = .ok (.iload 5, 2) := by decide +kernel
theorem dX5_read_98 : decode cX5_read 98 = .ok (.invokevirtual 101, 3) := by decide +kernel
theorem dX5_read_101 : decode cX5_read 101 = .ok (.aload_n 0, 1) := by decide +kernel
theorem dX5_read_102 : decode cX5_read 102 = .ok (.iload 5, 2) := by decide +kernel
theorem dX5_read_104 : decode cX5_read 104 = .ok (.invokevirtual 78, 3) := by decide +kernel
theorem dX5_read_107 : decode cX5_read 107 = .ok (.ireturn, 1) := by decide +kernel
def f_X5_read (p1 : Int32) (p2 : Int32) (M : Mem) : (Int32 × Mem) :=
  if (f_X5_isBlock p1 p2) then if (M 3 ((12 * p1) + p2).toNatClampNeg) = (-1) then if (f_X5_isCut p1 p2 M) then (0, (mup M 0 0 2))
      else zlet (f_X5_readIfThere 52 (mup M 0 0 0)) (fun N1 =>
      zlet (f_X5_readIfThere (48 + p1) N1) (fun N2 =>
        zlet (f_X5_readIfThere ((12 * p1) + p2) N2) (fun N3 =>
          ((f_X5_now ((12 * p1) + p2) N3), N3))))
    else ((f_X5_now ((12 * p1) + p2) (mup M 0 0 0)), (mup M 0 0 0))
  else (0, (mup M 0 0 1))
set_option maxRecDepth 100000 in
set_option maxHeartbeats 4000000 in
theorem k_X5_read (q : ZQ) (p1 : Int32) (p2 : Int32) (M : Mem) (hp : PlM M) : Zc (zgM q) mX5_read 0 0 [.inr 0, .inl p1, .inl p2] M (wIM (f_X5_read p1 p2 M)) := by
  refine Zc.of (by decide) zi_X5_read.1 (Nat.le_of_ble_eq_true rfl) rfl ?_
  show Zg _ _ _ _ _ _ (zlet (f_X5_read p1 p2 M) wIM) _ _ _ _
  unfold f_X5_read
  refine zg_iload_n (x := p1) dX5_read_0 rfl ?_
  refine zg_iload_n (x := p2) dX5_read_1 rfl ?_
  refine zg_cS1 (As := [.inl p1, .inl p2]) (S := []) (v := bI ((f_X5_isBlock p1 p2))) dX5_read_2 zk_X5_70 (k_X5_isBlock q p1 p2 M) rfl ⟨by decide, by decide⟩ ⟨by decide, by decide⟩ rfl (Nat.le_of_ble_eq_true rfl) ?_
  refine zg_st (pc' := 5) (L' := [some (.inr 0), some (.inl p1), some (.inl p2), none, none, none]) (S' := [.inl (bI ((f_X5_isBlock p1 p2)))]) (M' := M) rfl rfl rfl rfl ?_
  refine zg_istore_n dX5_read_5 (by decide) ?_
  refine zg_st (pc' := 6) (L' := [some (.inr 0), some (.inl p1), some (.inl p2), some (.inl (bI ((f_X5_isBlock p1 p2)))), none, none]) (S' := []) (M' := M) rfl rfl rfl rfl ?_
  refine zg_iload_n (x := bI ((f_X5_isBlock p1 p2))) dX5_read_6 rfl ?_
  refine zg_ifbe (tgt := 29) dX5_read_7 rfl (fun c7 => ?_) (fun c7 => ?_)
  · refine zg_st (pc' := 10) (L' := [some (.inr 0), some (.inl p1), some (.inl p2), some (.inl (bI ((f_X5_isBlock p1 p2)))), none, none]) (S' := []) (M' := M) rfl rfl rfl rfl ?_
    refine zg_aload_n (x := 0) dX5_read_10 rfl ?_
    refine zg_getf (v := .inr 3) dX5_read_11 zf_X5_20 rfl rfl rfl ?_
    refine zg_bipush (v := 12) dX5_read_14 rfl ?_
    refine zg_iload_n (x := p1) dX5_read_16 rfl ?_
    refine zg_imul dX5_read_17 ?_
    refine zg_iload_n (x := p2) dX5_read_18 rfl ?_
    refine zg_iadd dX5_read_19 ?_
    refine zg_iald dX5_read_20 rfl (z_b48 c7) ?_
    refine zg_iconst (v := (-1)) dX5_read_21 rfl ?_
    refine zg_icmpz (tgt := 29) dX5_read_22 rfl rfl (fun c22 => ?_) (fun c22 => ?_)
    · refine zg_st (pc' := 29) (L' := [some (.inr 0), some (.inl p1), some (.inl p2), some (.inl (bI ((f_X5_isBlock p1 p2)))), none, none]) (S' := []) (M' := M) rfl rfl rfl rfl ?_
      refine zg_iconst (v := 0) dX5_read_29 rfl ?_
      refine zg_istore dX5_read_30 (by decide) ?_
      refine zg_st (pc' := 32) (L' := [some (.inr 0), some (.inl p1), some (.inl p2), some (.inl (bI ((f_X5_isBlock p1 p2)))), some (.inl 0), none]) (S' := []) (M' := M) rfl rfl rfl rfl ?_
      refine zg_aload_n (x := 0) dX5_read_32 rfl ?_
      refine zg_iload_n (x := bI ((f_X5_isBlock p1 p2))) dX5_read_33 rfl ?_
      refine zg_kbnet (tgt := 41) dX5_read_34 rfl c7 ?_
      refine zg_st (pc' := 41) (L' := [some (.inr 0), some (.inl p1), some (.inl p2), some (.inl (bI ((f_X5_isBlock p1 p2)))), some (.inl 0), none]) (S' := [.inr 0]) (M' := M) rfl rfl rfl rfl ?_
      refine zg_iload (x := 0) dX5_read_41 rfl ?_
      refine zg_jf (tgt := 59) dX5_read_43 rfl (show ¬ (¬ (0 : Int32) = 0) from by decide) ?_
      refine zg_st (pc' := 46) (L' := [some (.inr 0), some (.inl p1), some (.inl p2), some (.inl (bI ((f_X5_isBlock p1 p2)))), some (.inl 0), none]) (S' := [.inr 0]) (M' := M) rfl rfl rfl rfl ?_
      refine zg_aload_n (x := 0) dX5_read_46 rfl ?_
      refine zg_iload_n (x := p1) dX5_read_47 rfl ?_
      refine zg_iload_n (x := p2) dX5_read_48 rfl ?_
      refine zg_cV1 (As := [.inl p1, .inl p2]) (S := [.inr 0]) (v := bI ((f_X5_isCut p1 p2 M))) dX5_read_49 zk_X5_98 (k_X5_isCut q p1 p2 M ⟨q_MisBlock.mp c7, hp⟩) rfl rfl ⟨by decide, by decide⟩ ⟨by decide, by decide⟩ rfl (Nat.le_of_ble_eq_true rfl) ?_
      refine zg_st (pc' := 52) (L' := [some (.inr 0), some (.inl p1), some (.inl p2), some (.inl (bI ((f_X5_isBlock p1 p2)))), some (.inl 0), none]) (S' := [.inl (bI ((f_X5_isCut p1 p2 M))), .inr 0]) (M' := M) rfl rfl rfl rfl ?_
      refine zg_ifbe (tgt := 59) dX5_read_52 rfl (fun c52 => ?_) (fun c52 => ?_)
      · refine zg_st (pc' := 55) (L' := [some (.inr 0), some (.inl p1), some (.inl p2), some (.inl (bI ((f_X5_isBlock p1 p2)))), some (.inl 0), none]) (S' := [.inr 0]) (M' := M) rfl rfl rfl rfl ?_
        refine zg_iconst (v := 2) dX5_read_55 rfl ?_
        refine zg_goto (tgt := 60) dX5_read_56 rfl ?_
        refine zg_st (pc' := 60) (L' := [some (.inr 0), some (.inl p1), some (.inl p2), some (.inl (bI ((f_X5_isBlock p1 p2)))), some (.inl 0), none]) (S' := [.inl 2, .inr 0]) (M' := M) rfl rfl rfl rfl ?_
        refine zg_cV1 (As := [.inl 2]) (S := []) (v := 1) (N0 := (mup M 0 0 2)) dX5_read_60 zk_X5_74 (k_X5_refused q 2 M) rfl rfl ⟨by decide, by decide⟩ ⟨by decide, by decide⟩ rfl (Nat.le_of_ble_eq_true rfl) ?_
        refine zg_st (pc' := 63) (L' := [some (.inr 0), some (.inl p1), some (.inl p2), some (.inl (bI ((f_X5_isBlock p1 p2)))), some (.inl 0), none]) (S' := [.inl 1]) (M' := (mup M 0 0 2)) rfl rfl rfl rfl ?_
        refine zg_jf (tgt := 68) dX5_read_63 rfl (show ¬ ((1 : Int32) = 0) from by decide) ?_
        refine zg_st (pc' := 66) (L' := [some (.inr 0), some (.inl p1), some (.inl p2), some (.inl (bI ((f_X5_isBlock p1 p2)))), some (.inl 0), none]) (S' := []) (M' := (mup M 0 0 2)) rfl rfl rfl rfl ?_
        refine zg_iconst (v := 0) dX5_read_66 rfl ?_
        exact zg_iret dX5_read_67 rfl rfl ⟨by decide, by decide⟩ rfl
      · refine zg_st (pc' := 59) (L' := [some (.inr 0), some (.inl p1), some (.inl p2), some (.inl (bI ((f_X5_isBlock p1 p2)))), some (.inl 0), none]) (S' := [.inr 0]) (M' := M) rfl rfl rfl rfl ?_
        refine zg_iconst (v := 0) dX5_read_59 rfl ?_
        refine zg_cV1 (As := [.inl 0]) (S := []) (v := 0) (N0 := (mup M 0 0 0)) dX5_read_60 zk_X5_74 (k_X5_refused q 0 M) rfl rfl ⟨by decide, by decide⟩ ⟨by decide, by decide⟩ rfl (Nat.le_of_ble_eq_true rfl) ?_
        refine zg_st (pc' := 63) (L' := [some (.inr 0), some (.inl p1), some (.inl p2), some (.inl (bI ((f_X5_isBlock p1 p2)))), some (.inl 0), none]) (S' := [.inl 0]) (M' := (mup M 0 0 0)) rfl rfl rfl rfl ?_
        refine zg_jt (tgt := 68) dX5_read_63 rfl (show (0 : Int32) = 0 from by decide) ?_
        refine zg_st (pc' := 68) (L' := [some (.inr 0), some (.inl p1), some (.inl p2), some (.inl (bI ((f_X5_isBlock p1 p2)))), some (.inl 0), none]) (S' := []) (M' := (mup M 0 0 0)) rfl rfl rfl rfl ?_
        refine zg_bipush (v := 12) dX5_read_68 rfl ?_
        refine zg_iload_n (x := p1) dX5_read_70 rfl ?_
        refine zg_imul dX5_read_71 ?_
        refine zg_iload_n (x := p2) dX5_read_72 rfl ?_
        refine zg_iadd dX5_read_73 ?_
        refine zg_istore dX5_read_74 (by decide) ?_
        refine zg_st (pc' := 76) (L' := [some (.inr 0), some (.inl p1), some (.inl p2), some (.inl (bI ((f_X5_isBlock p1 p2)))), some (.inl 0), some (.inl ((12 * p1) + p2))]) (S' := []) (M' := (mup M 0 0 0)) rfl rfl rfl rfl ?_
        refine zg_iload (x := 0) dX5_read_76 rfl ?_
        refine zg_jf (tgt := 101) dX5_read_78 rfl (show ¬ (¬ (0 : Int32) = 0) from by decide) ?_
        refine zg_st (pc' := 81) (L' := [some (.inr 0), some (.inl p1), some (.inl p2), some (.inl (bI ((f_X5_isBlock p1 p2)))), some (.inl 0), some (.inl ((12 * p1) + p2))]) (S' := []) (M' := (mup M 0 0 0)) rfl rfl rfl rfl ?_
        refine zg_aload_n (x := 0) dX5_read_81 rfl ?_
        refine zg_bipush (v := 52) dX5_read_82 rfl ?_
        refine zg_cVV (As := [.inl 52]) (S := []) dX5_read_84 zk_X5_101 (k_X5_readIfThere q 52 (mup M 0 0 0) ⟨z_52, (PlM_up (by decide) (by decide) hp)⟩) rfl rfl ⟨by decide, by decide⟩ ⟨by decide, by decide⟩ rfl (Nat.le_of_ble_eq_true rfl) (fun N1 e_N1 => ?_)
        try dsimp only
        refine zg_st (pc' := 87) (L' := [some (.inr 0), some (.inl p1), some (.inl p2), some (.inl (bI ((f_X5_isBlock p1 p2)))), some (.inl 0), some (.inl ((12 * p1) + p2))]) (S' := []) (M' := N1) rfl rfl rfl rfl ?_
        refine zg_aload_n (x := 0) dX5_read_87 rfl ?_
        refine zg_bipush (v := 48) dX5_read_88 rfl ?_
        refine zg_iload_n (x := p1) dX5_read_90 rfl ?_
        refine zg_iadd dX5_read_91 ?_
        refine zg_cVV (As := [.inl (48 + p1)]) (S := []) dX5_read_92 zk_X5_101 (k_X5_readIfThere q (48 + p1) N1 ⟨z_c53a (q_MisBlock.mp c7).1, sp_ritE e_N1 (PlM_up (by decide) (by decide) hp)⟩) rfl rfl ⟨by decide, by decide⟩ ⟨by decide, by decide⟩ rfl (Nat.le_of_ble_eq_true rfl) (fun N2 e_N2 => ?_)
        try dsimp only
        refine zg_st (pc' := 95) (L' := [some (.inr 0), some (.inl p1), some (.inl p2), some (.inl (bI ((f_X5_isBlock p1 p2)))), some (.inl 0), some (.inl ((12 * p1) + p2))]) (S' := []) (M' := N2) rfl rfl rfl rfl ?_
        refine zg_aload_n (x := 0) dX5_read_95 rfl ?_
        refine zg_iload (x := ((12 * p1) + p2)) dX5_read_96 rfl ?_
        refine zg_cVV (As := [.inl ((12 * p1) + p2)]) (S := []) dX5_read_98 zk_X5_101 (k_X5_readIfThere q ((12 * p1) + p2) N2 ⟨z_b53 c7, sp_ritE e_N2 (sp_ritE e_N1 (PlM_up (by decide) (by decide) hp))⟩) rfl rfl ⟨by decide, by decide⟩ ⟨by decide, by decide⟩ rfl (Nat.le_of_ble_eq_true rfl) (fun N3 e_N3 => ?_)
        try dsimp only
        refine zg_st (pc' := 101) (L' := [some (.inr 0), some (.inl p1), some (.inl p2), some (.inl (bI ((f_X5_isBlock p1 p2)))), some (.inl 0), some (.inl ((12 * p1) + p2))]) (S' := []) (M' := N3) rfl rfl rfl rfl ?_
        refine zg_aload_n (x := 0) dX5_read_101 rfl ?_
        refine zg_iload (x := ((12 * p1) + p2)) dX5_read_102 rfl ?_
        refine zg_cV1 (As := [.inl ((12 * p1) + p2)]) (S := []) (v := (f_X5_now ((12 * p1) + p2) N3)) dX5_read_104 zk_X5_78 (k_X5_now q ((12 * p1) + p2) N3 (z_b48 c7)) rfl rfl ⟨by decide, by decide⟩ ⟨by decide, by decide⟩ rfl (Nat.le_of_ble_eq_true rfl) ?_
        refine zg_st (pc' := 107) (L' := [some (.inr 0), some (.inl p1), some (.inl p2), some (.inl (bI ((f_X5_isBlock p1 p2)))), some (.inl 0), some (.inl ((12 * p1) + p2))]) (S' := [.inl (f_X5_now ((12 * p1) + p2) N3)]) (M' := N3) rfl rfl rfl rfl ?_
        exact zg_iret dX5_read_107 rfl rfl ⟨by decide, by decide⟩ rfl
    · refine zg_st (pc' := 25) (L' := [some (.inr 0), some (.inl p1), some (.inl p2), some (.inl (bI ((f_X5_isBlock p1 p2)))), none, none]) (S' := []) (M' := M) rfl rfl rfl rfl ?_
      refine zg_iconst (v := 1) dX5_read_25 rfl ?_
      refine zg_goto (tgt := 30) dX5_read_26 rfl ?_
      refine zg_st (pc' := 30) (L' := [some (.inr 0), some (.inl p1), some (.inl p2), some (.inl (bI ((f_X5_isBlock p1 p2)))), none, none]) (S' := [.inl 1]) (M' := M) rfl rfl rfl rfl ?_
      refine zg_istore dX5_read_30 (by decide) ?_
      refine zg_st (pc' := 32) (L' := [some (.inr 0), some (.inl p1), some (.inl p2), some (.inl (bI ((f_X5_isBlock p1 p2)))), some (.inl 1), none]) (S' := []) (M' := M) rfl rfl rfl rfl ?_
      refine zg_aload_n (x := 0) dX5_read_32 rfl ?_
      refine zg_iload_n (x := bI ((f_X5_isBlock p1 p2))) dX5_read_33 rfl ?_
      refine zg_kbnet (tgt := 41) dX5_read_34 rfl c7 ?_
      refine zg_st (pc' := 41) (L' := [some (.inr 0), some (.inl p1), some (.inl p2), some (.inl (bI ((f_X5_isBlock p1 p2)))), some (.inl 1), none]) (S' := [.inr 0]) (M' := M) rfl rfl rfl rfl ?_
      refine zg_iload (x := 1) dX5_read_41 rfl ?_
      refine zg_jt (tgt := 59) dX5_read_43 rfl (show ¬ (1 : Int32) = 0 from by decide) ?_
      refine zg_st (pc' := 59) (L' := [some (.inr 0), some (.inl p1), some (.inl p2), some (.inl (bI ((f_X5_isBlock p1 p2)))), some (.inl 1), none]) (S' := [.inr 0]) (M' := M) rfl rfl rfl rfl ?_
      refine zg_iconst (v := 0) dX5_read_59 rfl ?_
      refine zg_cV1 (As := [.inl 0]) (S := []) (v := 0) (N0 := (mup M 0 0 0)) dX5_read_60 zk_X5_74 (k_X5_refused q 0 M) rfl rfl ⟨by decide, by decide⟩ ⟨by decide, by decide⟩ rfl (Nat.le_of_ble_eq_true rfl) ?_
      refine zg_st (pc' := 63) (L' := [some (.inr 0), some (.inl p1), some (.inl p2), some (.inl (bI ((f_X5_isBlock p1 p2)))), some (.inl 1), none]) (S' := [.inl 0]) (M' := (mup M 0 0 0)) rfl rfl rfl rfl ?_
      refine zg_jt (tgt := 68) dX5_read_63 rfl (show (0 : Int32) = 0 from by decide) ?_
      refine zg_st (pc' := 68) (L' := [some (.inr 0), some (.inl p1), some (.inl p2), some (.inl (bI ((f_X5_isBlock p1 p2)))), some (.inl 1), none]) (S' := []) (M' := (mup M 0 0 0)) rfl rfl rfl rfl ?_
      refine zg_bipush (v := 12) dX5_read_68 rfl ?_
      refine zg_iload_n (x := p1) dX5_read_70 rfl ?_
      refine zg_imul dX5_read_71 ?_
      refine zg_iload_n (x := p2) dX5_read_72 rfl ?_
      refine zg_iadd dX5_read_73 ?_
      refine zg_istore dX5_read_74 (by decide) ?_
      refine zg_st (pc' := 76) (L' := [some (.inr 0), some (.inl p1), some (.inl p2), some (.inl (bI ((f_X5_isBlock p1 p2)))), some (.inl 1), some (.inl ((12 * p1) + p2))]) (S' := []) (M' := (mup M 0 0 0)) rfl rfl rfl rfl ?_
      refine zg_iload (x := 1) dX5_read_76 rfl ?_
      refine zg_jt (tgt := 101) dX5_read_78 rfl (show ¬ (1 : Int32) = 0 from by decide) ?_
      refine zg_st (pc' := 101) (L' := [some (.inr 0), some (.inl p1), some (.inl p2), some (.inl (bI ((f_X5_isBlock p1 p2)))), some (.inl 1), some (.inl ((12 * p1) + p2))]) (S' := []) (M' := (mup M 0 0 0)) rfl rfl rfl rfl ?_
      refine zg_aload_n (x := 0) dX5_read_101 rfl ?_
      refine zg_iload (x := ((12 * p1) + p2)) dX5_read_102 rfl ?_
      refine zg_cV1 (As := [.inl ((12 * p1) + p2)]) (S := []) (v := (f_X5_now ((12 * p1) + p2) (mup M 0 0 0))) dX5_read_104 zk_X5_78 (k_X5_now q ((12 * p1) + p2) (mup M 0 0 0) (z_b48 c7)) rfl rfl ⟨by decide, by decide⟩ ⟨by decide, by decide⟩ rfl (Nat.le_of_ble_eq_true rfl) ?_
      refine zg_st (pc' := 107) (L' := [some (.inr 0), some (.inl p1), some (.inl p2), some (.inl (bI ((f_X5_isBlock p1 p2)))), some (.inl 1), some (.inl ((12 * p1) + p2))]) (S' := [.inl (f_X5_now ((12 * p1) + p2) (mup M 0 0 0))]) (M' := (mup M 0 0 0)) rfl rfl rfl rfl ?_
      exact zg_iret dX5_read_107 rfl rfl ⟨by decide, by decide⟩ rfl
  · refine zg_st (pc' := 29) (L' := [some (.inr 0), some (.inl p1), some (.inl p2), some (.inl (bI ((f_X5_isBlock p1 p2)))), none, none]) (S' := []) (M' := M) rfl rfl rfl rfl ?_
    refine zg_iconst (v := 0) dX5_read_29 rfl ?_
    refine zg_istore dX5_read_30 (by decide) ?_
    refine zg_st (pc' := 32) (L' := [some (.inr 0), some (.inl p1), some (.inl p2), some (.inl (bI ((f_X5_isBlock p1 p2)))), some (.inl 0), none]) (S' := []) (M' := M) rfl rfl rfl rfl ?_
    refine zg_aload_n (x := 0) dX5_read_32 rfl ?_
    refine zg_iload_n (x := bI ((f_X5_isBlock p1 p2))) dX5_read_33 rfl ?_
    refine zg_kbnef (tgt := 41) dX5_read_34 rfl c7 ?_
    refine zg_st (pc' := 37) (L' := [some (.inr 0), some (.inl p1), some (.inl p2), some (.inl (bI ((f_X5_isBlock p1 p2)))), some (.inl 0), none]) (S' := [.inr 0]) (M' := M) rfl rfl rfl rfl ?_
    refine zg_iconst (v := 1) dX5_read_37 rfl ?_
    refine zg_goto (tgt := 60) dX5_read_38 rfl ?_
    refine zg_st (pc' := 60) (L' := [some (.inr 0), some (.inl p1), some (.inl p2), some (.inl (bI ((f_X5_isBlock p1 p2)))), some (.inl 0), none]) (S' := [.inl 1, .inr 0]) (M' := M) rfl rfl rfl rfl ?_
    refine zg_cV1 (As := [.inl 1]) (S := []) (v := 1) (N0 := (mup M 0 0 1)) dX5_read_60 zk_X5_74 (k_X5_refused q 1 M) rfl rfl ⟨by decide, by decide⟩ ⟨by decide, by decide⟩ rfl (Nat.le_of_ble_eq_true rfl) ?_
    refine zg_st (pc' := 63) (L' := [some (.inr 0), some (.inl p1), some (.inl p2), some (.inl (bI ((f_X5_isBlock p1 p2)))), some (.inl 0), none]) (S' := [.inl 1]) (M' := (mup M 0 0 1)) rfl rfl rfl rfl ?_
    refine zg_jf (tgt := 68) dX5_read_63 rfl (show ¬ ((1 : Int32) = 0) from by decide) ?_
    refine zg_st (pc' := 66) (L' := [some (.inr 0), some (.inl p1), some (.inl p2), some (.inl (bI ((f_X5_isBlock p1 p2)))), some (.inl 0), none]) (S' := []) (M' := (mup M 0 0 1)) rfl rfl rfl rfl ?_
    refine zg_iconst (v := 0) dX5_read_66 rfl ?_
    exact zg_iret dX5_read_67 rfl rfl ⟨by decide, by decide⟩ rfl
theorem dX5_copyBoth_0 : decode cX5_copyBoth 0 = .ok (.aload_n 0, 1) := by decide +kernel
theorem dX5_copyBoth_1 : decode cX5_copyBoth 1 = .ok (.aload_n 0, 1) := by decide +kernel
theorem dX5_copyBoth_2 : decode cX5_copyBoth 2 = .ok (.getfield 23, 3) := by decide +kernel
theorem dX5_copyBoth_5 : decode cX5_copyBoth 5 = .ok (.iload_n 1, 1) := by decide +kernel
theorem dX5_copyBoth_6 : decode cX5_copyBoth 6 = .ok (.iaload, 1) := by decide +kernel
theorem dX5_copyBoth_7 : decode cX5_copyBoth 7 = .ok (.aload_n 0, 1) := by decide +kernel
theorem dX5_copyBoth_8 : decode cX5_copyBoth 8 = .ok (.getfield 26, 3) := by decide +kernel
theorem dX5_copyBoth_11 : decode cX5_copyBoth 11 = .ok (.iload_n 1, 1) := by decide +kernel
theorem dX5_copyBoth_12 : decode cX5_copyBoth 12 = .ok (.iaload, 1) := by decide +kernel
theorem dX5_copyBoth_13 : decode cX5_copyBoth 13 = .ok (.iload_n 2, 1) := by decide +kernel
theorem dX5_copyBoth_14 : decode cX5_copyBoth 14 = .ok (.iload_n 3, 1) := by decide +kernel
theorem dX5_copyBoth_15 : decode cX5_copyBoth 15 = .ok (.invokevirtual 155, 3) := by decide +kernel
theorem dX5_copyBoth_18 : decode cX5_copyBoth 18 = .ok (.aload_n 0, 1) := by decide +kernel
theorem dX5_copyBoth_19 : decode cX5_copyBoth 19 = .ok (.aload_n 0, 1) := by decide +kernel
theorem dX5_copyBoth_20 : decode cX5_copyBoth 20 = .ok (.getfield 26, 3) := by decide +kernel
theorem dX5_copyBoth_23 : decode cX5_copyBoth 23 = .ok (.iload_n 1, 1) := by decide +kernel
theorem dX5_copyBoth_24 : decode cX5_copyBoth 24 = .ok (.iaload, 1) := by decide +kernel
theorem dX5_copyBoth_25 : decode cX5_copyBoth 25 = .ok (.aload_n 0, 1) := by decide +kernel
theorem dX5_copyBoth_26 : decode cX5_copyBoth 26 = .ok (.getfield 23, 3) := by decide +kernel
theorem dX5_copyBoth_29 : decode cX5_copyBoth 29 = .ok (.iload_n 1, 1) := by decide +kernel
theorem dX5_copyBoth_30 : decode cX5_copyBoth 30 = .ok (.iaload, 1) := by decide +kernel
theorem dX5_copyBoth_31 : decode cX5_copyBoth 31 = .ok (.iload_n 2, 1) := by decide +kernel
theorem dX5_copyBoth_32 : decode cX5_copyBoth 32 = .ok (.iload_n 3, 1) := by decide +kernel
theorem dX5_copyBoth_33 : decode cX5_copyBoth 33 = .ok (.invokevirtual 155, 3) := by decide +kernel
theorem dX5_copyBoth_36 : decode cX5_copyBoth 36 = .ok (.iadd, 1) := by decide +kernel
theorem dX5_copyBoth_37 : decode cX5_copyBoth 37 = .ok (.ireturn, 1) := by decide +kernel
def f_X5_copyBoth (p1 : Int32) (p2 : Int32) (p3 : Int32) (M : Mem) : (Int32 × Mem) :=
  zlet (f_X5_copy (M 4 p1.toNatClampNeg) (M 5 p1.toNatClampNeg) p2 p3 M) (fun q1 =>
  zlet (f_X5_copy (q1.2 5 p1.toNatClampNeg) (q1.2 4 p1.toNatClampNeg) p2 p3 q1.2) (fun q2 =>
    ((q1.1 + q2.1), q2.2)))
set_option maxRecDepth 100000 in
set_option maxHeartbeats 4000000 in
theorem k_X5_copyBoth (q : ZQ) (p1 : Int32) (p2 : Int32) (p3 : Int32) (M : Mem) (hp : vp_in p1 53 ∧ PlM M ∧ 0 ≤ p3.toInt ∧ p3.toInt < 2) : Zc (zgM q) mX5_copyBoth 0 0 [.inr 0, .inl p1, .inl p2, .inl p3] M (wIM (f_X5_copyBoth p1 p2 p3 M)) := by
  refine Zc.of (by decide) zi_X5_copyBoth.1 (Nat.le_of_ble_eq_true rfl) rfl ?_
  show Zg _ _ _ _ _ _ (zlet (f_X5_copyBoth p1 p2 p3 M) wIM) _ _ _ _
  unfold f_X5_copyBoth
  refine zg_aload_n (x := 0) dX5_copyBoth_0 rfl ?_
  refine zg_aload_n (x := 0) dX5_copyBoth_1 rfl ?_
  refine zg_getf (v := .inr 4) dX5_copyBoth_2 zf_X5_23 rfl rfl rfl ?_
  refine zg_iload_n (x := p1) dX5_copyBoth_5 rfl ?_
  refine zg_iald dX5_copyBoth_6 rfl hp.1 ?_
  refine zg_aload_n (x := 0) dX5_copyBoth_7 rfl ?_
  refine zg_getf (v := .inr 5) dX5_copyBoth_8 zf_X5_26 rfl rfl rfl ?_
  refine zg_iload_n (x := p1) dX5_copyBoth_11 rfl ?_
  refine zg_iald dX5_copyBoth_12 rfl hp.1 ?_
  refine zg_iload_n (x := p2) dX5_copyBoth_13 rfl ?_
  refine zg_iload_n (x := p3) dX5_copyBoth_14 rfl ?_
  refine zg_cVIM (As := [.inl (M 4 p1.toNatClampNeg), .inl (M 5 p1.toNatClampNeg), .inl p2, .inl p3]) (S := []) dX5_copyBoth_15 zk_X5_155 (k_X5_copy q (M 4 p1.toNatClampNeg) (M 5 p1.toNatClampNeg) p2 p3 M ⟨hp.2.1.1 _ (z_cl hp.1), hp.2.1.2 _ (z_cl hp.1), hp.2.2⟩) rfl rfl ⟨by decide, by decide⟩ ⟨by decide, by decide⟩ rfl (Nat.le_of_ble_eq_true rfl) (fun q1 e_q1 => ?_)
  try dsimp only
  refine zg_st (pc' := 18) (L' := [some (.inr 0), some (.inl p1), some (.inl p2), some (.inl p3)]) (S' := [.inl q1.1]) (M' := q1.2) rfl rfl rfl rfl ?_
  refine zg_aload_n (x := 0) dX5_copyBoth_18 rfl ?_
  refine zg_aload_n (x := 0) dX5_copyBoth_19 rfl ?_
  refine zg_getf (v := .inr 5) dX5_copyBoth_20 zf_X5_26 rfl rfl rfl ?_
  refine zg_iload_n (x := p1) dX5_copyBoth_23 rfl ?_
  refine zg_iald dX5_copyBoth_24 rfl hp.1 ?_
  refine zg_aload_n (x := 0) dX5_copyBoth_25 rfl ?_
  refine zg_getf (v := .inr 4) dX5_copyBoth_26 zf_X5_23 rfl rfl rfl ?_
  refine zg_iload_n (x := p1) dX5_copyBoth_29 rfl ?_
  refine zg_iald dX5_copyBoth_30 rfl hp.1 ?_
  refine zg_iload_n (x := p2) dX5_copyBoth_31 rfl ?_
  refine zg_iload_n (x := p3) dX5_copyBoth_32 rfl ?_
  refine zg_cVIM (As := [.inl (q1.2 5 p1.toNatClampNeg), .inl (q1.2 4 p1.toNatClampNeg), .inl p2, .inl p3]) (S := [.inl q1.1]) dX5_copyBoth_33 zk_X5_155 (k_X5_copy q (q1.2 5 p1.toNatClampNeg) (q1.2 4 p1.toNatClampNeg) p2 p3 q1.2 ⟨(sp_copyE e_q1 hp.2.1).2 _ (z_cl hp.1), (sp_copyE e_q1 hp.2.1).1 _ (z_cl hp.1), hp.2.2⟩) rfl rfl ⟨by decide, by decide⟩ ⟨by decide, by decide⟩ rfl (Nat.le_of_ble_eq_true rfl) (fun q2 e_q2 => ?_)
  try dsimp only
  refine zg_st (pc' := 36) (L' := [some (.inr 0), some (.inl p1), some (.inl p2), some (.inl p3)]) (S' := [.inl q2.1, .inl q1.1]) (M' := q2.2) rfl rfl rfl rfl ?_
  refine zg_iadd dX5_copyBoth_36 ?_
  exact zg_iret dX5_copyBoth_37 rfl rfl ⟨by decide, by decide⟩ rfl
theorem dX5_scrub_0 : decode cX5_scrub 0 = .ok (.aload_n 0, 1) := by decide +kernel
theorem dX5_scrub_1 : decode cX5_scrub 1 = .ok (.bipush 52, 2) := by decide +kernel
theorem dX5_scrub_3 : decode cX5_scrub 3 = .ok (.invokevirtual 169, 3) := by decide +kernel
theorem dX5_scrub_6 : decode cX5_scrub 6 = .ok (.istore_n 1, 1) := by decide +kernel
theorem dX5_scrub_7 : decode cX5_scrub 7 = .ok (.iconst 0, 1) := by decide +kernel
theorem dX5_scrub_8 : decode cX5_scrub 8 = .ok (.istore_n 2, 1) := by decide +kernel
theorem dX5_scrub_9 : decode cX5_scrub 9 = .ok (.iload_n 2, 1) := by decide +kernel
theorem dX5_scrub_10 : decode cX5_scrub 10 = .ok (.iconst 4, 1) := by decide +kernel
theorem dX5_scrub_11 : decode cX5_scrub 11 = .ok (.if_icmp .ge 70, 3) := by decide +kernel
theorem dX5_scrub_14 : decode cX5_scrub 14 = .ok (.aload_n 0, 1) := by decide +kernel
theorem dX5_scrub_15 : decode cX5_scrub 15 = .ok (.bipush 52, 2) := by decide +kernel
theorem dX5_scrub_17 : decode cX5_scrub 17 = .ok (.invokevirtual 95, 3) := by decide +kernel
theorem dX5_scrub_20 : decode cX5_scrub 20 = .ok (.ifCond .eq 61, 3) := by decide +kernel
theorem dX5_scrub_23 : decode cX5_scrub 23 = .ok (.iload_n 1, 1) := by decide +kernel
theorem dX5_scrub_24 : decode cX5_scrub 24 = .ok (.aload_n 0, 1) := by decide +kernel
theorem dX5_scrub_25 : decode cX5_scrub 25 = .ok (.bipush 48, 2) := by decide +kernel
theorem dX5_scrub_27 : decode cX5_scrub 27 = .ok (.iload_n 2, 1) := by decide +kernel
theorem dX5_scrub_28 : decode cX5_scrub 28 = .ok (.iadd, 1) := by decide +kernel
theorem dX5_scrub_29 : decode cX5_scrub 29 = .ok (.invokevirtual 169, 3) := by decide +kernel
theorem dX5_scrub_32 : decode cX5_scrub 32 = .ok (.iadd, 1) := by decide +kernel
theorem dX5_scrub_33 : decode cX5_scrub 33 = .ok (.istore_n 1, 1) := by decide +kernel
theorem dX5_scrub_34 : decode cX5_scrub 34 = .ok (.bipush 12, 2) := by decide +kernel
theorem dX5_scrub_36 : decode cX5_scrub 36 = .ok (.iload_n 2, 1) := by decide +kernel
theorem dX5_scrub_37 : decode cX5_scrub 37 = .ok (.imul, 1) := by decide +kernel
theorem dX5_scrub_38 : decode cX5_scrub 38 = .ok (.istore_n 3, 1) := by decide +kernel
theorem dX5_scrub_39 : decode cX5_scrub 39 = .ok (.iload_n 3, 1) := by decide +kernel
theorem dX5_scrub_40 : decode cX5_scrub 40 = .ok (.bipush 12, 2) := by decide +kernel
theorem dX5_scrub_42 : decode cX5_scrub 42 = .ok (.iload_n 2, 1) := by decide +kernel
theorem dX5_scrub_43 : decode cX5_scrub 43 = .ok (.imul, 1) := by decide +kernel
theorem dX5_scrub_44 : decode cX5_scrub 44 = .ok (.bipush 12, 2) := by decide +kernel
theorem dX5_scrub_46 : decode cX5_scrub 46 = .ok (.iadd, 1) := by decide +kernel
theorem dX5_scrub_47 : decode cX5_scrub 47 = .ok (.if_icmp .ge 28, 3) := by decide +kernel
theorem dX5_scrub_50 : decode cX5_scrub 50 = .ok (.aload_n 0, 1) := by decide +kernel
theorem dX5_scrub_51 : decode cX5_scrub 51 = .ok (.bipush 48, 2) := by decide +kernel
theorem dX5_scrub_53 : decode cX5_scrub 53 = .ok (.iload_n 2, 1) := by decide +kernel
theorem dX5_scrub_54 : decode cX5_scrub 54 = .ok (.iadd, 1) := by decide +kernel
theorem dX5_scrub_55 : decode cX5_scrub 55 = .ok (.invokevirtual 95, 3) := by decide +kernel
theorem dX5_scrub_58 : decode cX5_scrub 58 = .ok (.ifCond .eq 17, 3) := by decide +kernel
theorem dX5_scrub_61 : decode cX5_scrub 61 = .ok (.iload_n 1, 1) := by decide +kernel
theorem dX5_scrub_62 : decode cX5_scrub 62 = .ok (.aload_n 0, 1) := by decide +kernel
theorem dX5_scrub_63 : decode cX5_scrub 63 = .ok (.iload_n 3, 1) := by decide +kernel
theorem dX5_scrub_64 : decode cX5_scrub 64 = .ok (.invokevirtual 169, 3) := by decide +kernel
theorem dX5_scrub_67 : decode cX5_scrub 67 = .ok (.iadd, 1) := by decide +kernel
theorem dX5_scrub_68 : decode cX5_scrub 68 = .ok (.istore_n 1, 1) := by decide +kernel
theorem dX5_scrub_69 : decode cX5_scrub 69 = .ok (.iinc 3 1, 3) := by decide +kernel
theorem dX5_scrub_72 : decode cX5_scrub 72 = .ok (.goto (-33), 3) := by decide +kernel
theorem dX5_scrub_75 : decode cX5_scrub 75 = .ok (.iinc 2 1, 3) := by decide +kernel
theorem dX5_scrub_78 : decode cX5_scrub 78 = .ok (.goto (-69), 3) := by decide +kernel
theorem dX5_scrub_81 : decode cX5_scrub 81 = .ok (.aload_n 0, 1) := by decide +kernel
theorem dX5_scrub_82 : decode cX5_scrub 82 = .ok (.dup, 1) := by decide +kernel
theorem dX5_scrub_83 : decode cX5_scrub 83 = .ok (.getfield 85, 3) := by decide +kernel
theorem dX5_scrub_86 : decode cX5_scrub 86 = .ok (.iload_n 1, 1) := by decide +kernel
theorem dX5_scrub_87 : decode cX5_scrub 87 = .ok (.iadd, 1) := by decide +kernel
theorem dX5_scrub_88 : decode cX5_scrub 88 = .ok (.putfield 85, 3) := by decide +kernel
theorem dX5_scrub_91 : decode cX5_scrub 91 = .ok (.aload_n 0, 1) := by decide +kernel
theorem dX5_scrub_92 : decode cX5_scrub 92 = .ok (.iload_n 1, 1) := by decide +kernel
theorem dX5_scrub_93 : decode cX5_scrub 93 = .ok (.invokevirtual 149, 3) := by decide +kernel
theorem dX5_scrub_96 : decode cX5_scrub 96 = .ok (.ireturn, 1) := by decide +kernel
def b_X5_scrub_39 (x2 : Int32) (rec : Int32 → Int32 → Mem → Int32 × Int32 × Mem) (v1 : Int32) (v3 : Int32) (N : Mem) : Int32 × Int32 × Mem :=
  if ((12 * x2) + 12) ≤ v3 then (v1, v3, N)
  else if (f_X5_isReadable (48 + x2) N) then zlet (f_X5_healAll v3 N) (fun q3 =>
    rec (v1 + q3.1) (v3 + 1) q3.2)
  else (v1, v3, N)
def l_X5_scrub_39 (x2 : Int32) : Nat → Int32 → Int32 → Mem → Int32 × Int32 × Mem
  | 0, v1, v3, N => (v1, v3, N)
  | n + 1, v1, v3, N => b_X5_scrub_39 x2 (l_X5_scrub_39 x2 n) v1 v3 N
set_option maxRecDepth 100000 in
set_option maxHeartbeats 4000000 in
theorem kl_X5_scrub_39 (q : ZQ) (x2 : Int32) (hx2 : 0 ≤ x2.toInt ∧ x2.toInt < 4) {K : Int32 × Int32 × Mem → ZR} (hx : ∀ e : Int32 × Int32 × Mem, PlM e.2.2 ∧ (0 : Int) ≤ e.2.1.toInt → Zg (zgM q) mX5_scrub 0 0 0 0 (K e) 75 [some (.inr 0), some (.inl e.1), some (.inl x2), some (.inl e.2.1)] [] e.2.2) :
    ∀ (n : Nat) (v1 : Int32) (v3 : Int32) (N : Mem), PlM N ∧ (0 : Int) ≤ v3.toInt → ((((12 * x2) + 12) : Int32).toInt - (v3 : Int32).toInt).toNat < n → Zg (zgM q) mX5_scrub 0 0 0 0 (zlet (l_X5_scrub_39 x2 n v1 v3 N) K) 39 [some (.inr 0), some (.inl v1), some (.inl x2), some (.inl v3)] [] N := by
  intro n
  induction n with
  | zero => intro v1 v3 N hI hm; exact absurd hm (Nat.not_lt_zero _)
  | succ n ih =>
    intro v1 v3 N hI hm
    show Zg _ _ _ _ _ _ (zlet (b_X5_scrub_39 x2 (l_X5_scrub_39 x2 n) v1 v3 N) K) _ _ _ _
    unfold b_X5_scrub_39
    refine zg_iload_n (x := v3) dX5_scrub_39 rfl ?_
    refine zg_bipush (v := 12) dX5_scrub_40 rfl ?_
    refine zg_iload_n (x := x2) dX5_scrub_42 rfl ?_
    refine zg_imul dX5_scrub_43 ?_
    refine zg_bipush (v := 12) dX5_scrub_44 rfl ?_
    refine zg_iadd dX5_scrub_46 ?_
    refine zg_icmpz (tgt := 75) dX5_scrub_47 rfl rfl (fun c47 => ?_) (fun c47 => ?_)
    · refine zg_st (pc' := 75) (L' := [some (.inr 0), some (.inl v1), some (.inl x2), some (.inl v3)]) (S' := []) (M' := N) rfl rfl rfl rfl ?_
      refine zg_drop (L' := [some (.inr 0), some (.inl v1), some (.inl x2), some (.inl v3)]) ⟨rfl, rfl, rfl, rfl, trivial⟩ ?_
      exact hx (v1, v3, N) hI
    · refine zg_st (pc' := 50) (L' := [some (.inr 0), some (.inl v1), some (.inl x2), some (.inl v3)]) (S' := []) (M' := N) rfl rfl rfl rfl ?_
      refine zg_aload_n (x := 0) dX5_scrub_50 rfl ?_
      refine zg_bipush (v := 48) dX5_scrub_51 rfl ?_
      refine zg_iload_n (x := x2) dX5_scrub_53 rfl ?_
      refine zg_iadd dX5_scrub_54 ?_
      refine zg_cV1 (As := [.inl (48 + x2)]) (S := []) (v := bI ((f_X5_isReadable (48 + x2) N))) dX5_scrub_55 zk_X5_95 (k_X5_isReadable q (48 + x2) N (by first | with_reducible exact ⟨z_52, hI.1⟩ | with_reducible exact ⟨z_c53a hx2, hI.1⟩)) rfl rfl ⟨by decide, by decide⟩ ⟨by decide, by decide⟩ rfl (Nat.le_of_ble_eq_true rfl) ?_
      refine zg_st (pc' := 58) (L' := [some (.inr 0), some (.inl v1), some (.inl x2), some (.inl v3)]) (S' := [.inl (bI ((f_X5_isReadable (48 + x2) N)))]) (M' := N) rfl rfl rfl rfl ?_
      refine zg_ifbe (tgt := 75) dX5_scrub_58 rfl (fun c58 => ?_) (fun c58 => ?_)
      · refine zg_st (pc' := 61) (L' := [some (.inr 0), some (.inl v1), some (.inl x2), some (.inl v3)]) (S' := []) (M' := N) rfl rfl rfl rfl ?_
        refine zg_iload_n (x := v1) dX5_scrub_61 rfl ?_
        refine zg_aload_n (x := 0) dX5_scrub_62 rfl ?_
        refine zg_iload_n (x := v3) dX5_scrub_63 rfl ?_
        refine zg_cVIM (As := [.inl v3]) (S := [.inl v1]) dX5_scrub_64 zk_X5_169 (k_X5_healAll q v3 N ⟨z_48to53 (z_hd c47 hx2 hI.2), hI.1⟩) rfl rfl ⟨by decide, by decide⟩ ⟨by decide, by decide⟩ rfl (Nat.le_of_ble_eq_true rfl) (fun q3 e_q3 => ?_)
        try dsimp only
        refine zg_st (pc' := 67) (L' := [some (.inr 0), some (.inl v1), some (.inl x2), some (.inl v3)]) (S' := [.inl q3.1, .inl v1]) (M' := q3.2) rfl rfl rfl rfl ?_
        refine zg_iadd dX5_scrub_67 ?_
        refine zg_istore_n dX5_scrub_68 (by decide) ?_
        refine zg_st (pc' := 69) (L' := [some (.inr 0), some (.inl (v1 + q3.1)), some (.inl x2), some (.inl v3)]) (S' := []) (M' := q3.2) rfl rfl rfl rfl ?_
        refine zg_iinc (v := (v3 + 1)) dX5_scrub_69 rfl (by decide) rfl ?_
        refine zg_st (pc' := 72) (L' := [some (.inr 0), some (.inl (v1 + q3.1)), some (.inl x2), some (.inl (v3 + 1))]) (S' := []) (M' := q3.2) rfl rfl rfl rfl ?_
        refine zg_goto (tgt := 39) dX5_scrub_72 rfl ?_
        refine zg_st (pc' := 39) (L' := [some (.inr 0), some (.inl (v1 + q3.1)), some (.inl x2), some (.inl (v3 + 1))]) (S' := []) (M' := q3.2) rfl rfl rfl rfl ?_
        refine zg_drop (L' := [some (.inr 0), some (.inl (v1 + q3.1)), some (.inl x2), some (.inl (v3 + 1))]) ⟨rfl, rfl, rfl, rfl, trivial⟩ ?_
        exact ih (v1 + q3.1) (v3 + 1) q3.2 ⟨sp_healAllE e_q3 hI.1, z_ge0 c47 hI.2⟩ (z_up c47 hm)
      · refine zg_st (pc' := 75) (L' := [some (.inr 0), some (.inl v1), some (.inl x2), some (.inl v3)]) (S' := []) (M' := N) rfl rfl rfl rfl ?_
        refine zg_drop (L' := [some (.inr 0), some (.inl v1), some (.inl x2), some (.inl v3)]) ⟨rfl, rfl, rfl, rfl, trivial⟩ ?_
        exact hx (v1, v3, N) hI
def b_X5_scrub_9 (rec : Int32 → Int32 → Mem → Int32 × Int32 × Mem) (v1 : Int32) (v2 : Int32) (N : Mem) : Int32 × Int32 × Mem :=
  if 4 ≤ v2 then (v1, v2, N)
  else if (f_X5_isReadable 52 N) then zlet (f_X5_healAll (48 + v2) N) (fun q2 =>
    zlet (l_X5_scrub_39 v2 (((((12 * v2) + 12) : Int32).toInt - ((12 * v2) : Int32).toInt).toNat + 1) (v1 + q2.1) (12 * v2) q2.2) (fun s4 =>
      rec s4.1 (v2 + 1) s4.2.2))
  else (v1, v2, N)
def l_X5_scrub_9 : Nat → Int32 → Int32 → Mem → Int32 × Int32 × Mem
  | 0, v1, v2, N => (v1, v2, N)
  | n + 1, v1, v2, N => b_X5_scrub_9 (l_X5_scrub_9 n) v1 v2 N
set_option maxRecDepth 100000 in
set_option maxHeartbeats 4000000 in
theorem kl_X5_scrub_9 (q : ZQ) {K : Int32 × Int32 × Mem → ZR} (hx : ∀ e : Int32 × Int32 × Mem, PlM e.2.2 ∧ (0 : Int) ≤ e.2.1.toInt → Zg (zgM q) mX5_scrub 0 0 0 0 (K e) 81 [some (.inr 0), some (.inl e.1), some (.inl e.2.1), none] [] e.2.2) :
    ∀ (n : Nat) (v1 : Int32) (v2 : Int32) (N : Mem), PlM N ∧ (0 : Int) ≤ v2.toInt → ((4 : Int32).toInt - (v2 : Int32).toInt).toNat < n → Zg (zgM q) mX5_scrub 0 0 0 0 (zlet (l_X5_scrub_9 n v1 v2 N) K) 9 [some (.inr 0), some (.inl v1), some (.inl v2), none] [] N := by
  intro n
  induction n with
  | zero => intro v1 v2 N hI hm; exact absurd hm (Nat.not_lt_zero _)
  | succ n ih =>
    intro v1 v2 N hI hm
    show Zg _ _ _ _ _ _ (zlet (b_X5_scrub_9 (l_X5_scrub_9 n) v1 v2 N) K) _ _ _ _
    unfold b_X5_scrub_9
    refine zg_iload_n (x := v2) dX5_scrub_9 rfl ?_
    refine zg_iconst (v := 4) dX5_scrub_10 rfl ?_
    refine zg_icmpz (tgt := 81) dX5_scrub_11 rfl rfl (fun c11 => ?_) (fun c11 => ?_)
    · refine zg_st (pc' := 81) (L' := [some (.inr 0), some (.inl v1), some (.inl v2), none]) (S' := []) (M' := N) rfl rfl rfl rfl ?_
      refine zg_drop (L' := [some (.inr 0), some (.inl v1), some (.inl v2), none]) ⟨rfl, rfl, rfl, trivial⟩ ?_
      exact hx (v1, v2, N) hI
    · refine zg_st (pc' := 14) (L' := [some (.inr 0), some (.inl v1), some (.inl v2), none]) (S' := []) (M' := N) rfl rfl rfl rfl ?_
      refine zg_aload_n (x := 0) dX5_scrub_14 rfl ?_
      refine zg_bipush (v := 52) dX5_scrub_15 rfl ?_
      refine zg_cV1 (As := [.inl 52]) (S := []) (v := bI ((f_X5_isReadable 52 N))) dX5_scrub_17 zk_X5_95 (k_X5_isReadable q 52 N (by first | with_reducible exact ⟨z_52, hI.1⟩ | with_reducible exact ⟨z_c53a hx2, hI.1⟩)) rfl rfl ⟨by decide, by decide⟩ ⟨by decide, by decide⟩ rfl (Nat.le_of_ble_eq_true rfl) ?_
      refine zg_st (pc' := 20) (L' := [some (.inr 0), some (.inl v1), some (.inl v2), none]) (S' := [.inl (bI ((f_X5_isReadable 52 N)))]) (M' := N) rfl rfl rfl rfl ?_
      refine zg_ifbe (tgt := 81) dX5_scrub_20 rfl (fun c20 => ?_) (fun c20 => ?_)
      · refine zg_st (pc' := 23) (L' := [some (.inr 0), some (.inl v1), some (.inl v2), none]) (S' := []) (M' := N) rfl rfl rfl rfl ?_
        refine zg_iload_n (x := v1) dX5_scrub_23 rfl ?_
        refine zg_aload_n (x := 0) dX5_scrub_24 rfl ?_
        refine zg_bipush (v := 48) dX5_scrub_25 rfl ?_
        refine zg_iload_n (x := v2) dX5_scrub_27 rfl ?_
        refine zg_iadd dX5_scrub_28 ?_
        refine zg_cVIM (As := [.inl (48 + v2)]) (S := [.inl v1]) dX5_scrub_29 zk_X5_169 (k_X5_healAll q (48 + v2) N ⟨z_c53a (z_4 c11 hI.2), hI.1⟩) rfl rfl ⟨by decide, by decide⟩ ⟨by decide, by decide⟩ rfl (Nat.le_of_ble_eq_true rfl) (fun q2 e_q2 => ?_)
        try dsimp only
        refine zg_st (pc' := 32) (L' := [some (.inr 0), some (.inl v1), some (.inl v2), none]) (S' := [.inl q2.1, .inl v1]) (M' := q2.2) rfl rfl rfl rfl ?_
        refine zg_iadd dX5_scrub_32 ?_
        refine zg_istore_n dX5_scrub_33 (by decide) ?_
        refine zg_st (pc' := 34) (L' := [some (.inr 0), some (.inl (v1 + q2.1)), some (.inl v2), none]) (S' := []) (M' := q2.2) rfl rfl rfl rfl ?_
        refine zg_bipush (v := 12) dX5_scrub_34 rfl ?_
        refine zg_iload_n (x := v2) dX5_scrub_36 rfl ?_
        refine zg_imul dX5_scrub_37 ?_
        refine zg_istore_n dX5_scrub_38 (by decide) ?_
        refine zg_st (pc' := 39) (L' := [some (.inr 0), some (.inl (v1 + q2.1)), some (.inl v2), some (.inl (12 * v2))]) (S' := []) (M' := q2.2) rfl rfl rfl rfl ?_
        refine zg_asc ?_
        refine zg_drop (L' := [some (.inr 0), some (.inl (v1 + q2.1)), some (.inl v2), some (.inl (12 * v2))]) ⟨rfl, rfl, rfl, rfl, trivial⟩ ?_
        refine kl_X5_scrub_39 q v2  (z_4 c11 hI.2) (fun s4 hI_s4 => ?_) (((((12 * v2) + 12) : Int32).toInt - ((12 * v2) : Int32).toInt).toNat + 1) (v1 + q2.1) (12 * v2) q2.2 ⟨sp_healAllE e_q2 hI.1, by rw [z12' (z_4 c11 hI.2)]; have := hI.2; omega⟩ (Nat.lt_succ_self _)
        try dsimp only [Sum.elim_inr]
        refine zg_st (pc' := 75) (L' := [some (.inr 0), some (.inl s4.1), some (.inl v2), some (.inl s4.2.1)]) (S' := []) (M' := s4.2.2) rfl rfl rfl rfl ?_
        refine zg_iinc (v := (v2 + 1)) dX5_scrub_75 rfl (by decide) rfl ?_
        refine zg_st (pc' := 78) (L' := [some (.inr 0), some (.inl s4.1), some (.inl (v2 + 1)), some (.inl s4.2.1)]) (S' := []) (M' := s4.2.2) rfl rfl rfl rfl ?_
        refine zg_goto (tgt := 9) dX5_scrub_78 rfl ?_
        refine zg_st (pc' := 9) (L' := [some (.inr 0), some (.inl s4.1), some (.inl (v2 + 1)), some (.inl s4.2.1)]) (S' := []) (M' := s4.2.2) rfl rfl rfl rfl ?_
        refine zg_drop (L' := [some (.inr 0), some (.inl s4.1), some (.inl (v2 + 1)), none]) ⟨rfl, rfl, rfl, trivial⟩ ?_
        exact ih s4.1 (v2 + 1) s4.2.2 ⟨hI_s4.1, z_ge0 c11 hI.2⟩ (z_up c11 hm)
      · refine zg_st (pc' := 81) (L' := [some (.inr 0), some (.inl v1), some (.inl v2), none]) (S' := []) (M' := N) rfl rfl rfl rfl ?_
        refine zg_drop (L' := [some (.inr 0), some (.inl v1), some (.inl v2), none]) ⟨rfl, rfl, rfl, trivial⟩ ?_
        exact hx (v1, v2, N) hI
def f_X5_scrub (M : Mem) : (Int32 × Mem) :=
  zlet (f_X5_healAll 52 M) (fun q1 =>
  zlet (l_X5_scrub_9 5 q1.1 0 q1.2) (fun s5 =>
    (s5.1, (mup (mup s5.2.2 0 2 ((s5.2.2 0 2) + s5.1)) 0 0 0))))
set_option maxRecDepth 100000 in
set_option maxHeartbeats 4000000 in
theorem k_X5_scrub (q : ZQ) (M : Mem) (hp : PlM M) : Zc (zgM q) mX5_scrub 0 0 [.inr 0] M (wIM (f_X5_scrub M)) := by
  refine Zc.of (by decide) zi_X5_scrub.1 (Nat.le_of_ble_eq_true rfl) rfl ?_
  show Zg _ _ _ _ _ _ (zlet (f_X5_scrub M) wIM) _ _ _ _
  unfold f_X5_scrub
  refine zg_aload_n (x := 0) dX5_scrub_0 rfl ?_
  refine zg_bipush (v := 52) dX5_scrub_1 rfl ?_
  refine zg_cVIM (As := [.inl 52]) (S := []) dX5_scrub_3 zk_X5_169 (k_X5_healAll q 52 M ⟨z_52, hp⟩) rfl rfl ⟨by decide, by decide⟩ ⟨by decide, by decide⟩ rfl (Nat.le_of_ble_eq_true rfl) (fun q1 e_q1 => ?_)
  try dsimp only
  refine zg_st (pc' := 6) (L' := [some (.inr 0), none, none, none]) (S' := [.inl q1.1]) (M' := q1.2) rfl rfl rfl rfl ?_
  refine zg_istore_n dX5_scrub_6 (by decide) ?_
  refine zg_st (pc' := 7) (L' := [some (.inr 0), some (.inl q1.1), none, none]) (S' := []) (M' := q1.2) rfl rfl rfl rfl ?_
  refine zg_iconst (v := 0) dX5_scrub_7 rfl ?_
  refine zg_istore_n dX5_scrub_8 (by decide) ?_
  refine zg_st (pc' := 9) (L' := [some (.inr 0), some (.inl q1.1), some (.inl 0), none]) (S' := []) (M' := q1.2) rfl rfl rfl rfl ?_
  refine zg_asc ?_
  refine zg_drop (L' := [some (.inr 0), some (.inl q1.1), some (.inl 0), none]) ⟨rfl, rfl, rfl, trivial⟩ ?_
  refine kl_X5_scrub_9 q  (fun s5 hI_s5 => ?_) 5 q1.1 0 q1.2 ⟨sp_healAllE e_q1 hp, by decide⟩ (by decide)
  try dsimp only [Sum.elim_inr]
  refine zg_st (pc' := 81) (L' := [some (.inr 0), some (.inl s5.1), some (.inl s5.2.1), none]) (S' := []) (M' := s5.2.2) rfl rfl rfl rfl ?_
  refine zg_aload_n (x := 0) dX5_scrub_81 rfl ?_
  refine zg_dup dX5_scrub_82 ?_
  refine zg_getf (v := .inl (s5.2.2 0 2)) dX5_scrub_83 zf_X5_85 rfl rfl rfl ?_
  refine zg_iload_n (x := s5.1) dX5_scrub_86 rfl ?_
  refine zg_iadd dX5_scrub_87 ?_
  refine zg_putf dX5_scrub_88 zp_X5_85 rfl rfl ?_
  refine zg_aload_n (x := 0) dX5_scrub_91 rfl ?_
  refine zg_iload_n (x := s5.1) dX5_scrub_92 rfl ?_
  refine zg_cV1 (As := [.inl s5.1]) (S := []) (v := s5.1) (N0 := (mup (mup s5.2.2 0 2 ((s5.2.2 0 2) + s5.1)) 0 0 0)) dX5_scrub_93 zk_X5_149 (k_X5_fine q s5.1 (mup s5.2.2 0 2 ((s5.2.2 0 2) + s5.1))) rfl rfl ⟨by decide, by decide⟩ ⟨by decide, by decide⟩ rfl (Nat.le_of_ble_eq_true rfl) ?_
  refine zg_st (pc' := 96) (L' := [some (.inr 0), some (.inl s5.1), some (.inl s5.2.1), none]) (S' := [.inl s5.1]) (M' := (mup (mup s5.2.2 0 2 ((s5.2.2 0 2) + s5.1)) 0 0 0)) rfl rfl rfl rfl ?_
  exact zg_iret dX5_scrub_96 rfl rfl ⟨by decide, by decide⟩ rfl
theorem dX5_lost_0 : decode cX5_lost 0 = .ok (.iconst 0, 1) := by decide +kernel
theorem dX5_lost_1 : decode cX5_lost 1 = .ok (.istore_n 1, 1) := by decide +kernel
theorem dX5_lost_2 : decode cX5_lost 2 = .ok (.iconst 0, 1) := by decide +kernel
theorem dX5_lost_3 : decode cX5_lost 3 = .ok (.istore_n 2, 1) := by decide +kernel
theorem dX5_lost_4 : decode cX5_lost 4 = .ok (.iload_n 2, 1) := by decide +kernel
theorem dX5_lost_5 : decode cX5_lost 5 = .ok (.bipush 48, 2) := by decide +kernel
theorem dX5_lost_7 : decode cX5_lost 7 = .ok (.if_icmp .ge 40, 3) := by decide +kernel
theorem dX5_lost_10 : decode cX5_lost 10 = .ok (.iload_n 1, 1) := by decide +kernel
theorem dX5_lost_11 : decode cX5_lost 11 = .ok (.aload_n 0, 1) := by decide +kernel
theorem dX5_lost_12 : decode cX5_lost 12 = .ok (.iload_n 2, 1) := by decide +kernel
theorem dX5_lost_13 : decode cX5_lost 13 = .ok (.invokevirtual 92, 3) := by decide +kernel
theorem dX5_lost_16 : decode cX5_lost 16 = .ok (.ifCond .eq 22, 3) := by decide +kernel
theorem dX5_lost_19 : decode cX5_lost 19 = .ok (.aload_n 0, 1) := by decide +kernel
theorem dX5_lost_20 : decode cX5_lost 20 = .ok (.iload_n 2, 1) := by decide +kernel
theorem dX5_lost_21 : decode cX5_lost 21 = .ok (.bipush 12, 2) := by decide +kernel
theorem dX5_lost_23 : decode cX5_lost 23 = .ok (.idiv, 1) := by decide +kernel
theorem dX5_lost_24 : decode cX5_lost 24 = .ok (.iload_n 2, 1) := by decide +kernel
theorem dX5_lost_25 : decode cX5_lost 25 = .ok (.bipush 12, 2) := by decide +kernel
theorem dX5_lost_27 : decode cX5_lost 27 = .ok (.irem, 1) := by decide +kernel
theorem dX5_lost_28 : decode cX5_lost 28 = .ok (.invokevirtual 98, 3) := by decide +kernel
theorem dX5_lost_31 : decode cX5_lost 31 = .ok (.ifCond .eq 7, 3) := by decide +kernel
theorem dX5_lost_34 : decode cX5_lost 34 = .ok (.iconst 1, 1) := by decide +kernel
theorem dX5_lost_35 : decode cX5_lost 35 = .ok (.goto 4, 3) := by decide +kernel
theorem dX5_lost_38 : decode cX5_lost 38 = .ok (.iconst 0, 1) := by decide +kernel
theorem dX5_lost_39 : decode cX5_lost 39 = .ok (.iadd, 1) := by decide +kernel
theorem dX5_lost_40 : decode cX5_lost 40 = .ok (.istore_n 1, 1) := by decide +kernel
theorem dX5_lost_41 : decode cX5_lost 41 = .ok (.iinc 2 1, 3) := by decide +kernel
theorem dX5_lost_44 : decode cX5_lost 44 = .ok (.goto (-40), 3) := by decide +kernel
theorem dX5_lost_47 : decode cX5_lost 47 = .ok (.aload_n 0, 1) := by decide +kernel
theorem dX5_lost_48 : decode cX5_lost 48 = .ok (.iload_n 1, 1) := by decide +kernel
theorem dX5_lost_49 : decode cX5_lost 49 = .ok (.invokevirtual 149, 3) := by decide +kernel
theorem dX5_lost_52 : decode cX5_lost 52 = .ok (.ireturn, 1) := by decide +kernel
def b_X5_lost_4 (M : Mem) (rec : Int32 → Int32 → Int32 × Int32) (v1 : Int32) (v2 : Int32) : Int32 × Int32 :=
  if 48 ≤ v2 then (v1, v2)
  else if (f_X5_isThere v2 M) then if (f_X5_isCut (v2 / 12) (v2 - v2 / 12 * 12) M) then rec (v1 + 1) (v2 + 1)
    else rec (v1 + 0) (v2 + 1)
  else rec (v1 + 0) (v2 + 1)
def l_X5_lost_4 (M : Mem) : Nat → Int32 → Int32 → Int32 × Int32
  | 0, v1, v2 => (v1, v2)
  | n + 1, v1, v2 => b_X5_lost_4 M (l_X5_lost_4 M n) v1 v2
set_option maxRecDepth 100000 in
set_option maxHeartbeats 4000000 in
theorem kl_X5_lost_4 (q : ZQ) (M : Mem) (hM : PlM M) {K : Int32 × Int32 → ZR} (hx : ∀ e : Int32 × Int32, (0 : Int) ≤ e.2.toInt → Zg (zgM q) mX5_lost 0 0 0 0 (K e) 47 [some (.inr 0), some (.inl e.1), some (.inl e.2)] [] M) :
    ∀ (n : Nat) (v1 : Int32) (v2 : Int32), (0 : Int) ≤ v2.toInt → ((48 : Int32).toInt - (v2 : Int32).toInt).toNat < n → Zg (zgM q) mX5_lost 0 0 0 0 (zlet (l_X5_lost_4 M n v1 v2) K) 4 [some (.inr 0), some (.inl v1), some (.inl v2)] [] M := by
  intro n
  induction n with
  | zero => intro v1 v2 hI hm; exact absurd hm (Nat.not_lt_zero _)
  | succ n ih =>
    intro v1 v2 hI hm
    show Zg _ _ _ _ _ _ (zlet (b_X5_lost_4 M (l_X5_lost_4 M n) v1 v2) K) _ _ _ _
    unfold b_X5_lost_4
    refine zg_iload_n (x := v2) dX5_lost_4 rfl ?_
    refine zg_bipush (v := 48) dX5_lost_5 rfl ?_
    refine zg_icmpz (tgt := 47) dX5_lost_7 rfl rfl (fun c7 => ?_) (fun c7 => ?_)
    · refine zg_st (pc' := 47) (L' := [some (.inr 0), some (.inl v1), some (.inl v2)]) (S' := []) (M' := M) rfl rfl rfl rfl ?_
      refine zg_drop (L' := [some (.inr 0), some (.inl v1), some (.inl v2)]) ⟨rfl, rfl, rfl, trivial⟩ ?_
      exact hx (v1, v2) hI
    · refine zg_st (pc' := 10) (L' := [some (.inr 0), some (.inl v1), some (.inl v2)]) (S' := []) (M' := M) rfl rfl rfl rfl ?_
      refine zg_iload_n (x := v1) dX5_lost_10 rfl ?_
      refine zg_aload_n (x := 0) dX5_lost_11 rfl ?_
      refine zg_iload_n (x := v2) dX5_lost_12 rfl ?_
      refine zg_cV1 (As := [.inl v2]) (S := [.inl v1]) (v := bI ((f_X5_isThere v2 M))) dX5_lost_13 zk_X5_92 (k_X5_isThere q v2 M (z_48to53 (z_lt c7 rfl hI))) rfl rfl ⟨by decide, by decide⟩ ⟨by decide, by decide⟩ rfl (Nat.le_of_ble_eq_true rfl) ?_
      refine zg_st (pc' := 16) (L' := [some (.inr 0), some (.inl v1), some (.inl v2)]) (S' := [.inl (bI ((f_X5_isThere v2 M))), .inl v1]) (M' := M) rfl rfl rfl rfl ?_
      refine zg_ifbe (tgt := 38) dX5_lost_16 rfl (fun c16 => ?_) (fun c16 => ?_)
      · refine zg_st (pc' := 19) (L' := [some (.inr 0), some (.inl v1), some (.inl v2)]) (S' := [.inl v1]) (M' := M) rfl rfl rfl rfl ?_
        refine zg_aload_n (x := 0) dX5_lost_19 rfl ?_
        refine zg_iload_n (x := v2) dX5_lost_20 rfl ?_
        refine zg_bipush (v := 12) dX5_lost_21 rfl ?_
        refine zg_idiv dX5_lost_23 (by decide) ?_
        refine zg_iload_n (x := v2) dX5_lost_24 rfl ?_
        refine zg_bipush (v := 12) dX5_lost_25 rfl ?_
        refine zg_irem dX5_lost_27 (by decide) ?_
        refine zg_cV1 (As := [.inl (v2 / 12), .inl (v2 - v2 / 12 * 12)]) (S := [.inl v1]) (v := bI ((f_X5_isCut (v2 / 12) (v2 - v2 / 12 * 12) M))) dX5_lost_28 zk_X5_98 (k_X5_isCut q (v2 / 12) (v2 - v2 / 12 * 12) M ⟨z_l12 (z_lt c7 rfl hI), hM⟩) rfl rfl ⟨by decide, by decide⟩ ⟨by decide, by decide⟩ rfl (Nat.le_of_ble_eq_true rfl) ?_
        refine zg_st (pc' := 31) (L' := [some (.inr 0), some (.inl v1), some (.inl v2)]) (S' := [.inl (bI ((f_X5_isCut (v2 / 12) (v2 - v2 / 12 * 12) M))), .inl v1]) (M' := M) rfl rfl rfl rfl ?_
        refine zg_ifbe (tgt := 38) dX5_lost_31 rfl (fun c31 => ?_) (fun c31 => ?_)
        · refine zg_st (pc' := 34) (L' := [some (.inr 0), some (.inl v1), some (.inl v2)]) (S' := [.inl v1]) (M' := M) rfl rfl rfl rfl ?_
          refine zg_iconst (v := 1) dX5_lost_34 rfl ?_
          refine zg_goto (tgt := 39) dX5_lost_35 rfl ?_
          refine zg_st (pc' := 39) (L' := [some (.inr 0), some (.inl v1), some (.inl v2)]) (S' := [.inl 1, .inl v1]) (M' := M) rfl rfl rfl rfl ?_
          refine zg_iadd dX5_lost_39 ?_
          refine zg_istore_n dX5_lost_40 (by decide) ?_
          refine zg_st (pc' := 41) (L' := [some (.inr 0), some (.inl (v1 + 1)), some (.inl v2)]) (S' := []) (M' := M) rfl rfl rfl rfl ?_
          refine zg_iinc (v := (v2 + 1)) dX5_lost_41 rfl (by decide) rfl ?_
          refine zg_st (pc' := 44) (L' := [some (.inr 0), some (.inl (v1 + 1)), some (.inl (v2 + 1))]) (S' := []) (M' := M) rfl rfl rfl rfl ?_
          refine zg_goto (tgt := 4) dX5_lost_44 rfl ?_
          refine zg_st (pc' := 4) (L' := [some (.inr 0), some (.inl (v1 + 1)), some (.inl (v2 + 1))]) (S' := []) (M' := M) rfl rfl rfl rfl ?_
          refine zg_drop (L' := [some (.inr 0), some (.inl (v1 + 1)), some (.inl (v2 + 1))]) ⟨rfl, rfl, rfl, trivial⟩ ?_
          exact ih (v1 + 1) (v2 + 1) (z_ge0 c7 hI) (z_up c7 hm)
        · refine zg_st (pc' := 38) (L' := [some (.inr 0), some (.inl v1), some (.inl v2)]) (S' := [.inl v1]) (M' := M) rfl rfl rfl rfl ?_
          refine zg_iconst (v := 0) dX5_lost_38 rfl ?_
          refine zg_iadd dX5_lost_39 ?_
          refine zg_istore_n dX5_lost_40 (by decide) ?_
          refine zg_st (pc' := 41) (L' := [some (.inr 0), some (.inl (v1 + 0)), some (.inl v2)]) (S' := []) (M' := M) rfl rfl rfl rfl ?_
          refine zg_iinc (v := (v2 + 1)) dX5_lost_41 rfl (by decide) rfl ?_
          refine zg_st (pc' := 44) (L' := [some (.inr 0), some (.inl (v1 + 0)), some (.inl (v2 + 1))]) (S' := []) (M' := M) rfl rfl rfl rfl ?_
          refine zg_goto (tgt := 4) dX5_lost_44 rfl ?_
          refine zg_st (pc' := 4) (L' := [some (.inr 0), some (.inl (v1 + 0)), some (.inl (v2 + 1))]) (S' := []) (M' := M) rfl rfl rfl rfl ?_
          refine zg_drop (L' := [some (.inr 0), some (.inl (v1 + 0)), some (.inl (v2 + 1))]) ⟨rfl, rfl, rfl, trivial⟩ ?_
          exact ih (v1 + 0) (v2 + 1) (z_ge0 c7 hI) (z_up c7 hm)
      · refine zg_st (pc' := 38) (L' := [some (.inr 0), some (.inl v1), some (.inl v2)]) (S' := [.inl v1]) (M' := M) rfl rfl rfl rfl ?_
        refine zg_iconst (v := 0) dX5_lost_38 rfl ?_
        refine zg_iadd dX5_lost_39 ?_
        refine zg_istore_n dX5_lost_40 (by decide) ?_
        refine zg_st (pc' := 41) (L' := [some (.inr 0), some (.inl (v1 + 0)), some (.inl v2)]) (S' := []) (M' := M) rfl rfl rfl rfl ?_
        refine zg_iinc (v := (v2 + 1)) dX5_lost_41 rfl (by decide) rfl ?_
        refine zg_st (pc' := 44) (L' := [some (.inr 0), some (.inl (v1 + 0)), some (.inl (v2 + 1))]) (S' := []) (M' := M) rfl rfl rfl rfl ?_
        refine zg_goto (tgt := 4) dX5_lost_44 rfl ?_
        refine zg_st (pc' := 4) (L' := [some (.inr 0), some (.inl (v1 + 0)), some (.inl (v2 + 1))]) (S' := []) (M' := M) rfl rfl rfl rfl ?_
        refine zg_drop (L' := [some (.inr 0), some (.inl (v1 + 0)), some (.inl (v2 + 1))]) ⟨rfl, rfl, rfl, trivial⟩ ?_
        exact ih (v1 + 0) (v2 + 1) (z_ge0 c7 hI) (z_up c7 hm)
def f_X5_lost (M : Mem) : (Int32 × Mem) :=
  zlet (l_X5_lost_4 M 49 0 0) (fun s1 =>
  (s1.1, (mup M 0 0 0)))
set_option maxRecDepth 100000 in
set_option maxHeartbeats 4000000 in
theorem k_X5_lost (q : ZQ) (M : Mem) (hp : PlM M) : Zc (zgM q) mX5_lost 0 0 [.inr 0] M (wIM (f_X5_lost M)) := by
  refine Zc.of (by decide) zi_X5_lost.1 (Nat.le_of_ble_eq_true rfl) rfl ?_
  show Zg _ _ _ _ _ _ (zlet (f_X5_lost M) wIM) _ _ _ _
  unfold f_X5_lost
  refine zg_iconst (v := 0) dX5_lost_0 rfl ?_
  refine zg_istore_n dX5_lost_1 (by decide) ?_
  refine zg_st (pc' := 2) (L' := [some (.inr 0), some (.inl 0), none]) (S' := []) (M' := M) rfl rfl rfl rfl ?_
  refine zg_iconst (v := 0) dX5_lost_2 rfl ?_
  refine zg_istore_n dX5_lost_3 (by decide) ?_
  refine zg_st (pc' := 4) (L' := [some (.inr 0), some (.inl 0), some (.inl 0)]) (S' := []) (M' := M) rfl rfl rfl rfl ?_
  refine zg_asc ?_
  refine zg_drop (L' := [some (.inr 0), some (.inl 0), some (.inl 0)]) ⟨rfl, rfl, rfl, trivial⟩ ?_
  refine kl_X5_lost_4 q M hp (fun s1 hI_s1 => ?_) 49 0 0 (by decide) (by decide)
  try dsimp only [Sum.elim_inr]
  refine zg_st (pc' := 47) (L' := [some (.inr 0), some (.inl s1.1), some (.inl s1.2)]) (S' := []) (M' := M) rfl rfl rfl rfl ?_
  refine zg_aload_n (x := 0) dX5_lost_47 rfl ?_
  refine zg_iload_n (x := s1.1) dX5_lost_48 rfl ?_
  refine zg_cV1 (As := [.inl s1.1]) (S := []) (v := s1.1) (N0 := (mup M 0 0 0)) dX5_lost_49 zk_X5_149 (k_X5_fine q s1.1 M) rfl rfl ⟨by decide, by decide⟩ ⟨by decide, by decide⟩ rfl (Nat.le_of_ble_eq_true rfl) ?_
  refine zg_st (pc' := 52) (L' := [some (.inr 0), some (.inl s1.1), some (.inl s1.2)]) (S' := [.inl s1.1]) (M' := (mup M 0 0 0)) rfl rfl rfl rfl ?_
  exact zg_iret dX5_lost_52 rfl rfl ⟨by decide, by decide⟩ rfl
