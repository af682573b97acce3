theorem dX5_spoil_0 : decode cX5_spoil 0 = .ok (.iload_n 1, 1) := by decide +kernel
theorem dX5_spoil_1 : decode cX5_spoil 1 = .ok (.iload_n 2, 1) := by decide +kernel
theorem dX5_spoil_2 : decode cX5_spoil 2 = .ok (.invokestatic 152, 3) := by decide +kernel
theorem dX5_spoil_5 : decode cX5_spoil 5 = .ok (.ifCond .eq 15, 3) := by decide +kernel
theorem dX5_spoil_8 : decode cX5_spoil 8 = .ok (.iload_n 1, 1) := by decide +kernel
theorem dX5_spoil_9 : decode cX5_spoil 9 = .ok (.iload_n 3, 1) := by decide +kernel
theorem dX5_spoil_10 : decode cX5_spoil 10 = .ok (.invokestatic 166, 3) := by decide +kernel
theorem dX5_spoil_13 : decode cX5_spoil 13 = .ok (.ifCond .eq 7, 3) := by decide +kernel
theorem dX5_spoil_16 : decode cX5_spoil 16 = .ok (.iconst 1, 1) := by decide +kernel
theorem dX5_spoil_17 : decode cX5_spoil 17 = .ok (.goto 4, 3) := by decide +kernel
theorem dX5_spoil_20 : decode cX5_spoil 20 = .ok (.iconst 0, 1) := by decide +kernel
theorem dX5_spoil_21 : decode cX5_spoil 21 = .ok (.istore 4, 2) := by decide +kernel
theorem dX5_spoil_23 : decode cX5_spoil 23 = .ok (.aload_n 0, 1) := by decide +kernel
theorem dX5_spoil_24 : decode cX5_spoil 24 = .ok (.iload 4, 2) := by decide +kernel
theorem dX5_spoil_26 : decode cX5_spoil 26 = .ok (.ifCond .ne 7, 3) := by decide +kernel
theorem dX5_spoil_29 : decode cX5_spoil 29 = .ok (.iconst 1, 1) := by decide +kernel
theorem dX5_spoil_30 : decode cX5_spoil 30 = .ok (.goto 35, 3) := by decide +kernel
theorem dX5_spoil_33 : decode cX5_spoil 33 = .ok (.aload_n 0, 1) := by decide +kernel
theorem dX5_spoil_34 : decode cX5_spoil 34 = .ok (.getfield 42, 3) := by decide +kernel
theorem dX5_spoil_37 : decode cX5_spoil 37 = .ok (.iconst 2, 1) := by decide +kernel
theorem dX5_spoil_38 : decode cX5_spoil 38 = .ok (.iload_n 1, 1) := by decide +kernel
theorem dX5_spoil_39 : decode cX5_spoil 39 = .ok (.imul, 1) := by decide +kernel
theorem dX5_spoil_40 : decode cX5_spoil 40 = .ok (.iload_n 2, 1) := by decide +kernel
theorem dX5_spoil_41 : decode cX5_spoil 41 = .ok (.iadd, 1) := by decide +kernel
theorem dX5_spoil_42 : decode cX5_spoil 42 = .ok (.baload, 1) := by decide +kernel
theorem dX5_spoil_43 : decode cX5_spoil 43 = .ok (.ifCond .ne 17, 3) := by decide +kernel
theorem dX5_spoil_46 : decode cX5_spoil 46 = .ok (.aload_n 0, 1) := by decide +kernel
theorem dX5_spoil_47 : decode cX5_spoil 47 = .ok (.getfield 35, 3) := by decide +kernel
theorem dX5_spoil_50 : decode cX5_spoil 50 = .ok (.bipush 40, 2) := by decide +kernel
theorem dX5_spoil_52 : decode cX5_spoil 52 = .ok (.iload_n 1, 1) := by decide +kernel
theorem dX5_spoil_53 : decode cX5_spoil 53 = .ok (.imul, 1) := by decide +kernel
theorem dX5_spoil_54 : decode cX5_spoil 54 = .ok (.iload_n 3, 1) := by decide +kernel
theorem dX5_spoil_55 : decode cX5_spoil 55 = .ok (.iadd, 1) := by decide +kernel
theorem dX5_spoil_56 : decode cX5_spoil 56 = .ok (.baload, 1) := by decide +kernel
theorem dX5_spoil_57 : decode cX5_spoil 57 = .ok (.ifCond .ne 7, 3) := by decide +kernel
theorem dX5_spoil_60 : decode cX5_spoil 60 = .ok (.iconst 2, 1) := by decide +kernel
theorem dX5_spoil_61 : decode cX5_spoil 61 = .ok (.goto 4, 3) := by decide +kernel
theorem dX5_spoil_64 : decode cX5_spoil 64 = .ok (.iconst 0, 1) := by decide +kernel
theorem dX5_spoil_65 : decode cX5_spoil 65 = .ok (.invokevirtual 74, 3) := by decide +kernel
theorem dX5_spoil_68 : decode cX5_spoil 68 = .ok (.ifCond .eq 5, 3) := by decide +kernel
theorem dX5_spoil_71 : decode cX5_spoil 71 = .ok (.iconst 0, 1) := by decide +kernel
theorem dX5_spoil_72 : decode cX5_spoil 72 = .ok (.ireturn, 1) := by decide +kernel
theorem dX5_spoil_73 : decode cX5_spoil 73 = .ok (.iconst 2, 1) := by decide +kernel
theorem dX5_spoil_74 : decode cX5_spoil 74 = .ok (.bipush 40, 2) := by decide +kernel
theorem dX5_spoil_76 : decode cX5_spoil 76 = .ok (.iload_n 1, 1) := by decide +kernel
theorem dX5_spoil_77 : decode cX5_spoil 77 = .ok (.imul, 1) := by decide +kernel
theorem dX5_spoil_78 : decode cX5_spoil 78 = .ok (.iload_n 3, 1) := by decide +kernel
theorem dX5_spoil_79 : decode cX5_spoil 79 = .ok (.iadd, 1) := by decide +kernel
theorem dX5_spoil_80 : decode cX5_spoil 80 = .ok (.imul, 1) := by decide +kernel
theorem dX5_spoil_81 : decode cX5_spoil 81 = .ok (.iload_n 2, 1) := by decide +kernel
theorem dX5_spoil_82 : decode cX5_spoil 82 = .ok (.iadd, 1) := by decide +kernel
theorem dX5_spoil_83 : decode cX5_spoil 83 = .ok (.istore 5, 2) := by decide +kernel
theorem dX5_spoil_85 : decode cX5_spoil 85 = .ok (.aload_n 0, 1) := by decide +kernel
theorem dX5_spoil_86 : decode cX5_spoil 86 = .ok (.getfield 39, 3) := by decide +kernel
theorem dX5_spoil_89 : decode cX5_spoil 89 = .ok (.iload 5, 2) := by decide +kernel
theorem dX5_spoil_91 : decode cX5_spoil 91 = .ok (.baload, 1) := by decide +kernel
theorem dX5_spoil_92 : decode cX5_spoil 92 = .ok (.istore 6, 2) := by decide +kernel
theorem dX5_spoil_94 : decode cX5_spoil 94 = .ok (.aload_n 0, 1) := by decide +kernel
theorem dX5_spoil_95 : decode cX5_spoil 95 = .ok (.getfield 39, 3) := by decide +kernel
theorem dX5_spoil_98 : decode cX5_spoil 98 = .ok (.iload 5, 2) := by decide +kernel
theorem dX5_spoil_100 : decode cX5_spoil 100 = .ok (.iconst 1, 1) := by decide +kernel
theorem dX5_spoil_101 : decode cX5_spoil 101 = .ok (.bastore, 1) := by decide +kernel
theorem dX5_spoil_102 : decode cX5_spoil 102 = .ok (.iload 6, 2) := by decide +kernel
theorem dX5_spoil_104 : decode cX5_spoil 104 = .ok (.ifCond .ne 7, 3) := by decide +kernel
theorem dX5_spoil_107 : decode cX5_spoil 107 = .ok (.iconst 1, 1) := by decide +kernel
theorem dX5_spoil_108 : decode cX5_spoil 108 = .ok (.goto 4, 3) := by decide +kernel
theorem dX5_spoil_111 : decode cX5_spoil 111 = .ok (.iconst 0, 1) := by decide +kernel
theorem dX5_spoil_112 : decode cX5_spoil 112 = .ok (.ireturn, 1) := by decide +kernel
def f_X5_spoil (p1 : Int32) (p2 : Int32) (p3 : Int32) (M : Mem) : (Bool × Mem) :=
  if (f_X5_isSide p1 p2) then if (f_X5_isCell p1 p3) then if ¬ (M 10 ((2 * p1) + p2).toNatClampNeg) = 0 then (false, (mup M 0 0 2))
      else if ¬ (M 8 ((40 * p1) + p3).toNatClampNeg) = 0 then if ¬ ((mup M 0 0 0) 9 ((2 * ((40 * p1) + p3)) + p2).toNatClampNeg) = 0 then (false, (mup (mup M 0 0 0) 9 ((2 * ((40 * p1) + p3)) + p2).toNatClampNeg 1))
        else (true, (mup (mup M 0 0 0) 9 ((2 * ((40 * p1) + p3)) + p2).toNatClampNeg 1))
      else (false, (mup M 0 0 2))
    else (false, (mup M 0 0 1))
  else (false, (mup M 0 0 1))
set_option maxRecDepth 100000 in
set_option maxHeartbeats 4000000 in
theorem k_X5_spoil (q : ZQ) (p1 : Int32) (p2 : Int32) (p3 : Int32) (M : Mem) : Zc (zgM q) mX5_spoil 0 0 [.inr 0, .inl p1, .inl p2, .inl p3] M (wBM (f_X5_spoil p1 p2 p3 M)) := by
  refine Zc.of (by decide) zi_X5_spoil.1 (Nat.le_of_ble_eq_true rfl) rfl ?_
  show Zg _ _ _ _ _ _ (zlet (f_X5_spoil p1 p2 p3 M) wBM) _ _ _ _
  unfold f_X5_spoil
  refine zg_iload_n (x := p1) dX5_spoil_0 rfl ?_
  refine zg_iload_n (x := p2) dX5_spoil_1 rfl ?_
  refine zg_cS1 (As := [.inl p1, .inl p2]) (S := []) (v := bI ((f_X5_isSide p1 p2))) dX5_spoil_2 zk_X5_152 (k_X5_isSide q p1 p2 M) rfl ⟨by decide, by decide⟩ ⟨by decide, by decide⟩ rfl (Nat.le_of_ble_eq_true rfl) ?_
  refine zg_st (pc' := 5) (L' := [some (.inr 0), some (.inl p1), some (.inl p2), some (.inl p3), none, none, none]) (S' := [.inl (bI ((f_X5_isSide p1 p2)))]) (M' := M) rfl rfl rfl rfl ?_
  refine zg_ifbe (tgt := 20) dX5_spoil_5 rfl (fun c5 => ?_) (fun c5 => ?_)
  · refine zg_st (pc' := 8) (L' := [some (.inr 0), some (.inl p1), some (.inl p2), some (.inl p3), none, none, none]) (S' := []) (M' := M) rfl rfl rfl rfl ?_
    refine zg_iload_n (x := p1) dX5_spoil_8 rfl ?_
    refine zg_iload_n (x := p3) dX5_spoil_9 rfl ?_
    refine zg_cS1 (As := [.inl p1, .inl p3]) (S := []) (v := bI ((f_X5_isCell p1 p3))) dX5_spoil_10 zk_X5_166 (k_X5_isCell q p1 p3 M) rfl ⟨by decide, by decide⟩ ⟨by decide, by decide⟩ rfl (Nat.le_of_ble_eq_true rfl) ?_
    refine zg_st (pc' := 13) (L' := [some (.inr 0), some (.inl p1), some (.inl p2), some (.inl p3), none, none, none]) (S' := [.inl (bI ((f_X5_isCell p1 p3)))]) (M' := M) rfl rfl rfl rfl ?_
    refine zg_ifbe (tgt := 20) dX5_spoil_13 rfl (fun c13 => ?_) (fun c13 => ?_)
    · refine zg_st (pc' := 16) (L' := [some (.inr 0), some (.inl p1), some (.inl p2), some (.inl p3), none, none, none]) (S' := []) (M' := M) rfl rfl rfl rfl ?_
      refine zg_iconst (v := 1) dX5_spoil_16 rfl ?_
      refine zg_goto (tgt := 21) dX5_spoil_17 rfl ?_
      refine zg_st (pc' := 21) (L' := [some (.inr 0), some (.inl p1), some (.inl p2), some (.inl p3), none, none, none]) (S' := [.inl 1]) (M' := M) rfl rfl rfl rfl ?_
      refine zg_istore dX5_spoil_21 (by decide) ?_
      refine zg_st (pc' := 23) (L' := [some (.inr 0), some (.inl p1), some (.inl p2), some (.inl p3), some (.inl 1), none, none]) (S' := []) (M' := M) rfl rfl rfl rfl ?_
      refine zg_aload_n (x := 0) dX5_spoil_23 rfl ?_
      refine zg_iload (x := 1) dX5_spoil_24 rfl ?_
      refine zg_jt (tgt := 33) dX5_spoil_26 rfl (show ¬ (1 : Int32) = 0 from by decide) ?_
      refine zg_st (pc' := 33) (L' := [some (.inr 0), some (.inl p1), some (.inl p2), some (.inl p3), some (.inl 1), none, none]) (S' := [.inr 0]) (M' := M) rfl rfl rfl rfl ?_
      refine zg_aload_n (x := 0) dX5_spoil_33 rfl ?_
      refine zg_getf (v := .inr 10) dX5_spoil_34 zf_X5_42 rfl rfl rfl ?_
      refine zg_iconst (v := 2) dX5_spoil_37 rfl ?_
      refine zg_iload_n (x := p1) dX5_spoil_38 rfl ?_
      refine zg_imul dX5_spoil_39 ?_
      refine zg_iload_n (x := p2) dX5_spoil_40 rfl ?_
      refine zg_iadd dX5_spoil_41 ?_
      refine zg_zald dX5_spoil_42 rfl (by first | with_reducible exact z_s6 c5 | with_reducible exact z_c120 c13 | with_reducible exact z_c240 c13 c5) ?_
      refine zg_ifz (tgt := 60) dX5_spoil_43 rfl rfl (fun c43 => ?_) (fun c43 => ?_)
      · refine zg_st (pc' := 60) (L' := [some (.inr 0), some (.inl p1), some (.inl p2), some (.inl p3), some (.inl 1), none, none]) (S' := [.inr 0]) (M' := M) rfl rfl rfl rfl ?_
        refine zg_iconst (v := 2) dX5_spoil_60 rfl ?_
        refine zg_goto (tgt := 65) dX5_spoil_61 rfl ?_
        refine zg_st (pc' := 65) (L' := [some (.inr 0), some (.inl p1), some (.inl p2), some (.inl p3), some (.inl 1), none, none]) (S' := [.inl 2, .inr 0]) (M' := M) rfl rfl rfl rfl ?_
        refine zg_cV1 (As := [.inl 2]) (S := []) (v := 1) (N0 := (mup M 0 0 2)) dX5_spoil_65 zk_X5_74 (k_X5_refused q 2 M) rfl rfl ⟨by decide, by decide⟩ ⟨by decide, by decide⟩ rfl (Nat.le_of_ble_eq_true rfl) ?_
        refine zg_st (pc' := 68) (L' := [some (.inr 0), some (.inl p1), some (.inl p2), some (.inl p3), some (.inl 1), none, none]) (S' := [.inl 1]) (M' := (mup M 0 0 2)) rfl rfl rfl rfl ?_
        refine zg_jf (tgt := 73) dX5_spoil_68 rfl (show ¬ ((1 : Int32) = 0) from by decide) ?_
        refine zg_st (pc' := 71) (L' := [some (.inr 0), some (.inl p1), some (.inl p2), some (.inl p3), some (.inl 1), none, none]) (S' := []) (M' := (mup M 0 0 2)) rfl rfl rfl rfl ?_
        refine zg_iconst (v := 0) dX5_spoil_71 rfl ?_
        exact zg_iret dX5_spoil_72 rfl rfl ⟨by decide, by decide⟩ rfl
      · refine zg_st (pc' := 46) (L' := [some (.inr 0), some (.inl p1), some (.inl p2), some (.inl p3), some (.inl 1), none, none]) (S' := [.inr 0]) (M' := M) rfl rfl rfl rfl ?_
        refine zg_aload_n (x := 0) dX5_spoil_46 rfl ?_
        refine zg_getf (v := .inr 8) dX5_spoil_47 zf_X5_35 rfl rfl rfl ?_
        refine zg_bipush (v := 40) dX5_spoil_50 rfl ?_
        refine zg_iload_n (x := p1) dX5_spoil_52 rfl ?_
        refine zg_imul dX5_spoil_53 ?_
        refine zg_iload_n (x := p3) dX5_spoil_54 rfl ?_
        refine zg_iadd dX5_spoil_55 ?_
        refine zg_zald dX5_spoil_56 rfl (by first | with_reducible exact z_s6 c5 | with_reducible exact z_c120 c13 | with_reducible exact z_c240 c13 c5) ?_
        refine zg_ifz (tgt := 64) dX5_spoil_57 rfl rfl (fun c57 => ?_) (fun c57 => ?_)
        · refine zg_st (pc' := 64) (L' := [some (.inr 0), some (.inl p1), some (.inl p2), some (.inl p3), some (.inl 1), none, none]) (S' := [.inr 0]) (M' := M) rfl rfl rfl rfl ?_
          refine zg_iconst (v := 0) dX5_spoil_64 rfl ?_
          refine zg_cV1 (As := [.inl 0]) (S := []) (v := 0) (N0 := (mup M 0 0 0)) dX5_spoil_65 zk_X5_74 (k_X5_refused q 0 M) rfl rfl ⟨by decide, by decide⟩ ⟨by decide, by decide⟩ rfl (Nat.le_of_ble_eq_true rfl) ?_
          refine zg_st (pc' := 68) (L' := [some (.inr 0), some (.inl p1), some (.inl p2), some (.inl p3), some (.inl 1), none, none]) (S' := [.inl 0]) (M' := (mup M 0 0 0)) rfl rfl rfl rfl ?_
          refine zg_jt (tgt := 73) dX5_spoil_68 rfl (show (0 : Int32) = 0 from by decide) ?_
          refine zg_st (pc' := 73) (L' := [some (.inr 0), some (.inl p1), some (.inl p2), some (.inl p3), some (.inl 1), none, none]) (S' := []) (M' := (mup M 0 0 0)) rfl rfl rfl rfl ?_
          refine zg_iconst (v := 2) dX5_spoil_73 rfl ?_
          refine zg_bipush (v := 40) dX5_spoil_74 rfl ?_
          refine zg_iload_n (x := p1) dX5_spoil_76 rfl ?_
          refine zg_imul dX5_spoil_77 ?_
          refine zg_iload_n (x := p3) dX5_spoil_78 rfl ?_
          refine zg_iadd dX5_spoil_79 ?_
          refine zg_imul dX5_spoil_80 ?_
          refine zg_iload_n (x := p2) dX5_spoil_81 rfl ?_
          refine zg_iadd dX5_spoil_82 ?_
          refine zg_istore dX5_spoil_83 (by decide) ?_
          refine zg_st (pc' := 85) (L' := [some (.inr 0), some (.inl p1), some (.inl p2), some (.inl p3), some (.inl 1), some (.inl ((2 * ((40 * p1) + p3)) + p2)), none]) (S' := []) (M' := (mup M 0 0 0)) rfl rfl rfl rfl ?_
          refine zg_aload_n (x := 0) dX5_spoil_85 rfl ?_
          refine zg_getf (v := .inr 9) dX5_spoil_86 zf_X5_39 rfl rfl rfl ?_
          refine zg_iload (x := ((2 * ((40 * p1) + p3)) + p2)) dX5_spoil_89 rfl ?_
          refine zg_zald dX5_spoil_91 rfl (by first | with_reducible exact z_s6 c5 | with_reducible exact z_c120 c13 | with_reducible exact z_c240 c13 c5) ?_
          refine zg_istore dX5_spoil_92 (by decide) ?_
          refine zg_st (pc' := 94) (L' := [some (.inr 0), some (.inl p1), some (.inl p2), some (.inl p3), some (.inl 1), some (.inl ((2 * ((40 * p1) + p3)) + p2)), some (.inl ((mup M 0 0 0) 9 ((2 * ((40 * p1) + p3)) + p2).toNatClampNeg))]) (S' := []) (M' := (mup M 0 0 0)) rfl rfl rfl rfl ?_
          refine zg_aload_n (x := 0) dX5_spoil_94 rfl ?_
          refine zg_getf (v := .inr 9) dX5_spoil_95 zf_X5_39 rfl rfl rfl ?_
          refine zg_iload (x := ((2 * ((40 * p1) + p3)) + p2)) dX5_spoil_98 rfl ?_
          refine zg_iconst (v := 1) dX5_spoil_100 rfl ?_
          refine zg_zast (v := 1) dX5_spoil_101 rfl (by first | with_reducible exact z_s6 c5 | with_reducible exact z_c120 c13 | with_reducible exact z_c240 c13 c5) rfl ?_
          refine zg_iload (x := ((mup M 0 0 0) 9 ((2 * ((40 * p1) + p3)) + p2).toNatClampNeg)) dX5_spoil_102 rfl ?_
          refine zg_ifz (tgt := 111) dX5_spoil_104 rfl rfl (fun c104 => ?_) (fun c104 => ?_)
          · refine zg_st (pc' := 111) (L' := [some (.inr 0), some (.inl p1), some (.inl p2), some (.inl p3), some (.inl 1), some (.inl ((2 * ((40 * p1) + p3)) + p2)), some (.inl ((mup M 0 0 0) 9 ((2 * ((40 * p1) + p3)) + p2).toNatClampNeg))]) (S' := []) (M' := (mup (mup M 0 0 0) 9 ((2 * ((40 * p1) + p3)) + p2).toNatClampNeg 1)) rfl rfl rfl rfl ?_
            refine zg_iconst (v := 0) dX5_spoil_111 rfl ?_
            exact zg_iret dX5_spoil_112 rfl rfl ⟨by decide, by decide⟩ rfl
          · refine zg_st (pc' := 107) (L' := [some (.inr 0), some (.inl p1), some (.inl p2), some (.inl p3), some (.inl 1), some (.inl ((2 * ((40 * p1) + p3)) + p2)), some (.inl ((mup M 0 0 0) 9 ((2 * ((40 * p1) + p3)) + p2).toNatClampNeg))]) (S' := []) (M' := (mup (mup M 0 0 0) 9 ((2 * ((40 * p1) + p3)) + p2).toNatClampNeg 1)) rfl rfl rfl rfl ?_
            refine zg_iconst (v := 1) dX5_spoil_107 rfl ?_
            refine zg_goto (tgt := 112) dX5_spoil_108 rfl ?_
            refine zg_st (pc' := 112) (L' := [some (.inr 0), some (.inl p1), some (.inl p2), some (.inl p3), some (.inl 1), some (.inl ((2 * ((40 * p1) + p3)) + p2)), some (.inl ((mup M 0 0 0) 9 ((2 * ((40 * p1) + p3)) + p2).toNatClampNeg))]) (S' := [.inl 1]) (M' := (mup (mup M 0 0 0) 9 ((2 * ((40 * p1) + p3)) + p2).toNatClampNeg 1)) rfl rfl rfl rfl ?_
            exact zg_iret dX5_spoil_112 rfl rfl ⟨by decide, by decide⟩ rfl
        · refine zg_st (pc' := 60) (L' := [some (.inr 0), some (.inl p1), some (.inl p2), some (.inl p3), some (.inl 1), none, none]) (S' := [.inr 0]) (M' := M) rfl rfl rfl rfl ?_
          refine zg_iconst (v := 2) dX5_spoil_60 rfl ?_
          refine zg_goto (tgt := 65) dX5_spoil_61 rfl ?_
          refine zg_st (pc' := 65) (L' := [some (.inr 0), some (.inl p1), some (.inl p2), some (.inl p3), some (.inl 1), none, none]) (S' := [.inl 2, .inr 0]) (M' := M) rfl rfl rfl rfl ?_
          refine zg_cV1 (As := [.inl 2]) (S := []) (v := 1) (N0 := (mup M 0 0 2)) dX5_spoil_65 zk_X5_74 (k_X5_refused q 2 M) rfl rfl ⟨by decide, by decide⟩ ⟨by decide, by decide⟩ rfl (Nat.le_of_ble_eq_true rfl) ?_
          refine zg_st (pc' := 68) (L' := [some (.inr 0), some (.inl p1), some (.inl p2), some (.inl p3), some (.inl 1), none, none]) (S' := [.inl 1]) (M' := (mup M 0 0 2)) rfl rfl rfl rfl ?_
          refine zg_jf (tgt := 73) dX5_spoil_68 rfl (show ¬ ((1 : Int32) = 0) from by decide) ?_
          refine zg_st (pc' := 71) (L' := [some (.inr 0), some (.inl p1), some (.inl p2), some (.inl p3), some (.inl 1), none, none]) (S' := []) (M' := (mup M 0 0 2)) rfl rfl rfl rfl ?_
          refine zg_iconst (v := 0) dX5_spoil_71 rfl ?_
          exact zg_iret dX5_spoil_72 rfl rfl ⟨by decide, by decide⟩ rfl
    · refine zg_st (pc' := 20) (L' := [some (.inr 0), some (.inl p1), some (.inl p2), some (.inl p3), none, none, none]) (S' := []) (M' := M) rfl rfl rfl rfl ?_
      refine zg_iconst (v := 0) dX5_spoil_20 rfl ?_
      refine zg_istore dX5_spoil_21 (by decide) ?_
      refine zg_st (pc' := 23) (L' := [some (.inr 0), some (.inl p1), some (.inl p2), some (.inl p3), some (.inl 0), none, none]) (S' := []) (M' := M) rfl rfl rfl rfl ?_
      refine zg_aload_n (x := 0) dX5_spoil_23 rfl ?_
      refine zg_iload (x := 0) dX5_spoil_24 rfl ?_
      refine zg_jf (tgt := 33) dX5_spoil_26 rfl (show ¬ (¬ (0 : Int32) = 0) from by decide) ?_
      refine zg_st (pc' := 29) (L' := [some (.inr 0), some (.inl p1), some (.inl p2), some (.inl p3), some (.inl 0), none, none]) (S' := [.inr 0]) (M' := M) rfl rfl rfl rfl ?_
      refine zg_iconst (v := 1) dX5_spoil_29 rfl ?_
      refine zg_goto (tgt := 65) dX5_spoil_30 rfl ?_
      refine zg_st (pc' := 65) (L' := [some (.inr 0), some (.inl p1), some (.inl p2), some (.inl p3), some (.inl 0), none, none]) (S' := [.inl 1, .inr 0]) (M' := M) rfl rfl rfl rfl ?_
      refine zg_cV1 (As := [.inl 1]) (S := []) (v := 1) (N0 := (mup M 0 0 1)) dX5_spoil_65 zk_X5_74 (k_X5_refused q 1 M) rfl rfl ⟨by decide, by decide⟩ ⟨by decide, by decide⟩ rfl (Nat.le_of_ble_eq_true rfl) ?_
      refine zg_st (pc' := 68) (L' := [some (.inr 0), some (.inl p1), some (.inl p2), some (.inl p3), some (.inl 0), none, none]) (S' := [.inl 1]) (M' := (mup M 0 0 1)) rfl rfl rfl rfl ?_
      refine zg_jf (tgt := 73) dX5_spoil_68 rfl (show ¬ ((1 : Int32) = 0) from by decide) ?_
      refine zg_st (pc' := 71) (L' := [some (.inr 0), some (.inl p1), some (.inl p2), some (.inl p3), some (.inl 0), none, none]) (S' := []) (M' := (mup M 0 0 1)) rfl rfl rfl rfl ?_
      refine zg_iconst (v := 0) dX5_spoil_71 rfl ?_
      exact zg_iret dX5_spoil_72 rfl rfl ⟨by decide, by decide⟩ rfl
  · refine zg_st (pc' := 20) (L' := [some (.inr 0), some (.inl p1), some (.inl p2), some (.inl p3), none, none, none]) (S' := []) (M' := M) rfl rfl rfl rfl ?_
    refine zg_iconst (v := 0) dX5_spoil_20 rfl ?_
    refine zg_istore dX5_spoil_21 (by decide) ?_
    refine zg_st (pc' := 23) (L' := [some (.inr 0), some (.inl p1), some (.inl p2), some (.inl p3), some (.inl 0), none, none]) (S' := []) (M' := M) rfl rfl rfl rfl ?_
    refine zg_aload_n (x := 0) dX5_spoil_23 rfl ?_
    refine zg_iload (x := 0) dX5_spoil_24 rfl ?_
    refine zg_jf (tgt := 33) dX5_spoil_26 rfl (show ¬ (¬ (0 : Int32) = 0) from by decide) ?_
    refine zg_st (pc' := 29) (L' := [some (.inr 0), some (.inl p1), some (.inl p2), some (.inl p3), some (.inl 0), none, none]) (S' := [.inr 0]) (M' := M) rfl rfl rfl rfl ?_
    refine zg_iconst (v := 1) dX5_spoil_29 rfl ?_
    refine zg_goto (tgt := 65) dX5_spoil_30 rfl ?_
    refine zg_st (pc' := 65) (L' := [some (.inr 0), some (.inl p1), some (.inl p2), some (.inl p3), some (.inl 0), none, none]) (S' := [.inl 1, .inr 0]) (M' := M) rfl rfl rfl rfl ?_
    refine zg_cV1 (As := [.inl 1]) (S := []) (v := 1) (N0 := (mup M 0 0 1)) dX5_spoil_65 zk_X5_74 (k_X5_refused q 1 M) rfl rfl ⟨by decide, by decide⟩ ⟨by decide, by decide⟩ rfl (Nat.le_of_ble_eq_true rfl) ?_
    refine zg_st (pc' := 68) (L' := [some (.inr 0), some (.inl p1), some (.inl p2), some (.inl p3), some (.inl 0), none, none]) (S' := [.inl 1]) (M' := (mup M 0 0 1)) rfl rfl rfl rfl ?_
    refine zg_jf (tgt := 73) dX5_spoil_68 rfl (show ¬ ((1 : Int32) = 0) from by decide) ?_
    refine zg_st (pc' := 71) (L' := [some (.inr 0), some (.inl p1), some (.inl p2), some (.inl p3), some (.inl 0), none, none]) (S' := []) (M' := (mup M 0 0 1)) rfl rfl rfl rfl ?_
    refine zg_iconst (v := 0) dX5_spoil_71 rfl ?_
    exact zg_iret dX5_spoil_72 rfl rfl ⟨by decide, by decide⟩ rfl
theorem dX5_isSpoilt_0 : decode cX5_isSpoilt 0 = .ok (.iload_n 1, 1) := by decide +kernel
theorem dX5_isSpoilt_1 : decode cX5_isSpoilt 1 = .ok (.iload_n 2, 1) := by decide +kernel
theorem dX5_isSpoilt_2 : decode cX5_isSpoilt 2 = .ok (.invokestatic 152, 3) := by decide +kernel
theorem dX5_isSpoilt_5 : decode cX5_isSpoilt 5 = .ok (.ifCond .eq 15, 3) := by decide +kernel
theorem dX5_isSpoilt_8 : decode cX5_isSpoilt 8 = .ok (.iload_n 1, 1) := by decide +kernel
theorem dX5_isSpoilt_9 : decode cX5_isSpoilt 9 = .ok (.iload_n 3, 1) := by decide +kernel
theorem dX5_isSpoilt_10 : decode cX5_isSpoilt 10 = .ok (.invokestatic 166, 3) := by decide +kernel
theorem dX5_isSpoilt_13 : decode cX5_isSpoilt 13 = .ok (.ifCond .eq 7, 3) := by decide +kernel
theorem dX5_isSpoilt_16 : decode cX5_isSpoilt 16 = .ok (.iconst 1, 1) := by decide +kernel
theorem dX5_isSpoilt_17 : decode cX5_isSpoilt 17 = .ok (.goto 4, 3) := by decide +kernel
theorem dX5_isSpoilt_20 : decode cX5_isSpoilt 20 = .ok (.iconst 0, 1) := by decide +kernel
theorem dX5_isSpoilt_21 : decode cX5_isSpoilt 21 = .ok (.istore 4, 2) := by decide +kernel
theorem dX5_isSpoilt_23 : decode cX5_isSpoilt 23 = .ok (.aload_n 0, 1) := by decide +kernel
theorem dX5_isSpoilt_24 : decode cX5_isSpoilt 24 = .ok (.iload 4, 2) := by decide +kernel
theorem dX5_isSpoilt_26 : decode cX5_isSpoilt 26 = .ok (.ifCond .ne 7, 3) := by decide +kernel
theorem dX5_isSpoilt_29 : decode cX5_isSpoilt 29 = .ok (.iconst 1, 1) := by decide +kernel
theorem dX5_isSpoilt_30 : decode cX5_isSpoilt 30 = .ok (.goto 21, 3) := by decide +kernel
theorem dX5_isSpoilt_33 : decode cX5_isSpoilt 33 = .ok (.aload_n 0, 1) := by decide +kernel
theorem dX5_isSpoilt_34 : decode cX5_isSpoilt 34 = .ok (.getfield 42, 3) := by decide +kernel
theorem dX5_isSpoilt_37 : decode cX5_isSpoilt 37 = .ok (.iconst 2, 1) := by decide +kernel
theorem dX5_isSpoilt_38 : decode cX5_isSpoilt 38 = .ok (.iload_n 1, 1) := by decide +kernel
theorem dX5_isSpoilt_39 : decode cX5_isSpoilt 39 = .ok (.imul, 1) := by decide +kernel
theorem dX5_isSpoilt_40 : decode cX5_isSpoilt 40 = .ok (.iload_n 2, 1) := by decide +kernel
theorem dX5_isSpoilt_41 : decode cX5_isSpoilt 41 = .ok (.iadd, 1) := by decide +kernel
theorem dX5_isSpoilt_42 : decode cX5_isSpoilt 42 = .ok (.baload, 1) := by decide +kernel
theorem dX5_isSpoilt_43 : decode cX5_isSpoilt 43 = .ok (.ifCond .eq 7, 3) := by decide +kernel
theorem dX5_isSpoilt_46 : decode cX5_isSpoilt 46 = .ok (.iconst 2, 1) := by decide +kernel
theorem dX5_isSpoilt_47 : decode cX5_isSpoilt 47 = .ok (.goto 4, 3) := by decide +kernel
theorem dX5_isSpoilt_50 : decode cX5_isSpoilt 50 = .ok (.iconst 0, 1) := by decide +kernel
theorem dX5_isSpoilt_51 : decode cX5_isSpoilt 51 = .ok (.invokevirtual 74, 3) := by decide +kernel
theorem dX5_isSpoilt_54 : decode cX5_isSpoilt 54 = .ok (.ifCond .ne 39, 3) := by decide +kernel
theorem dX5_isSpoilt_57 : decode cX5_isSpoilt 57 = .ok (.aload_n 0, 1) := by decide +kernel
theorem dX5_isSpoilt_58 : decode cX5_isSpoilt 58 = .ok (.getfield 35, 3) := by decide +kernel
theorem dX5_isSpoilt_61 : decode cX5_isSpoilt 61 = .ok (.bipush 40, 2) := by decide +kernel
theorem dX5_isSpoilt_63 : decode cX5_isSpoilt 63 = .ok (.iload_n 1, 1) := by decide +kernel
theorem dX5_isSpoilt_64 : decode cX5_isSpoilt 64 = .ok (.imul, 1) := by decide +kernel
theorem dX5_isSpoilt_65 : decode cX5_isSpoilt 65 = .ok (.iload_n 3, 1) := by decide +kernel
theorem dX5_isSpoilt_66 : decode cX5_isSpoilt 66 = .ok (.iadd, 1) := by decide +kernel
theorem dX5_isSpoilt_67 : decode cX5_isSpoilt 67 = .ok (.baload, 1) := by decide +kernel
theorem dX5_isSpoilt_68 : decode cX5_isSpoilt 68 = .ok (.ifCond .eq 25, 3) := by decide +kernel
theorem dX5_isSpoilt_71 : decode cX5_isSpoilt 71 = .ok (.aload_n 0, 1) := by decide +kernel
theorem dX5_isSpoilt_72 : decode cX5_isSpoilt 72 = .ok (.getfield 39, 3) := by decide +kernel
theorem dX5_isSpoilt_75 : decode cX5_isSpoilt 75 = .ok (.iconst 2, 1) := by decide +kernel
theorem dX5_isSpoilt_76 : decode cX5_isSpoilt 76 = .ok (.bipush 40, 2) := by decide +kernel
theorem dX5_isSpoilt_78 : decode cX5_isSpoilt 78 = .ok (.iload_n 1, 1) := by decide +kernel
theorem dX5_isSpoilt_79 : decode cX5_isSpoilt 79 = .ok (.imul, 1) := by decide +kernel
theorem dX5_isSpoilt_80 : decode cX5_isSpoilt 80 = .ok (.iload_n 3, 1) := by decide +kernel
theorem dX5_isSpoilt_81 : decode cX5_isSpoilt 81 = .ok (.iadd, 1) := by decide +kernel
theorem dX5_isSpoilt_82 : decode cX5_isSpoilt 82 = .ok (.imul, 1) := by decide +kernel
theorem dX5_isSpoilt_83 : decode cX5_isSpoilt 83 = .ok (.iload_n 2, 1) := by decide +kernel
theorem dX5_isSpoilt_84 : decode cX5_isSpoilt 84 = .ok (.iadd, 1) := by decide +kernel
theorem dX5_isSpoilt_85 : decode cX5_isSpoilt 85 = .ok (.baload, 1) := by decide +kernel
theorem dX5_isSpoilt_86 : decode cX5_isSpoilt 86 = .ok (.ifCond .eq 7, 3) := by decide +kernel
theorem dX5_isSpoilt_89 : decode cX5_isSpoilt 89 = .ok (.iconst 1, 1) := by decide +kernel
theorem dX5_isSpoilt_90 : decode cX5_isSpoilt 90 = .ok (.goto 4, 3) := by decide +kernel
theorem dX5_isSpoilt_93 : decode cX5_isSpoilt 93 = .ok (.iconst 0, 1) := by decide +kernel
theorem dX5_isSpoilt_94 : decode cX5_isSpoilt 94 = .ok (.ireturn, 1) := by decide +kernel
def f_X5_isSpoilt (p1 : Int32) (p2 : Int32) (p3 : Int32) (M : Mem) : (Bool × Mem) :=
  if (f_X5_isSide p1 p2) then if (f_X5_isCell p1 p3) then if (M 10 ((2 * p1) + p2).toNatClampNeg) = 0 then if ((mup M 0 0 0) 8 ((40 * p1) + p3).toNatClampNeg) = 0 then (false, (mup M 0 0 0))
        else if ((mup M 0 0 0) 9 ((2 * ((40 * p1) + p3)) + p2).toNatClampNeg) = 0 then (false, (mup M 0 0 0))
        else (true, (mup M 0 0 0))
      else (false, (mup M 0 0 2))
    else (false, (mup M 0 0 1))
  else (false, (mup M 0 0 1))
set_option maxRecDepth 100000 in
set_option maxHeartbeats 4000000 in
theorem k_X5_isSpoilt (q : ZQ) (p1 : Int32) (p2 : Int32) (p3 : Int32) (M : Mem) : Zc (zgM q) mX5_isSpoilt 0 0 [.inr 0, .inl p1, .inl p2, .inl p3] M (wBM (f_X5_isSpoilt p1 p2 p3 M)) := by
  refine Zc.of (by decide) zi_X5_isSpoilt.1 (Nat.le_of_ble_eq_true rfl) rfl ?_
  show Zg _ _ _ _ _ _ (zlet (f_X5_isSpoilt p1 p2 p3 M) wBM) _ _ _ _
  unfold f_X5_isSpoilt
  refine zg_iload_n (x := p1) dX5_isSpoilt_0 rfl ?_
  refine zg_iload_n (x := p2) dX5_isSpoilt_1 rfl ?_
  refine zg_cS1 (As := [.inl p1, .inl p2]) (S := []) (v := bI ((f_X5_isSide p1 p2))) dX5_isSpoilt_2 zk_X5_152 (k_X5_isSide q p1 p2 M) rfl ⟨by decide, by decide⟩ ⟨by decide, by decide⟩ rfl (Nat.le_of_ble_eq_true rfl) ?_
  refine zg_st (pc' := 5) (L' := [some (.inr 0), some (.inl p1), some (.inl p2), some (.inl p3), none]) (S' := [.inl (bI ((f_X5_isSide p1 p2)))]) (M' := M) rfl rfl rfl rfl ?_
  refine zg_ifbe (tgt := 20) dX5_isSpoilt_5 rfl (fun c5 => ?_) (fun c5 => ?_)
  · refine zg_st (pc' := 8) (L' := [some (.inr 0), some (.inl p1), some (.inl p2), some (.inl p3), none]) (S' := []) (M' := M) rfl rfl rfl rfl ?_
    refine zg_iload_n (x := p1) dX5_isSpoilt_8 rfl ?_
    refine zg_iload_n (x := p3) dX5_isSpoilt_9 rfl ?_
    refine zg_cS1 (As := [.inl p1, .inl p3]) (S := []) (v := bI ((f_X5_isCell p1 p3))) dX5_isSpoilt_10 zk_X5_166 (k_X5_isCell q p1 p3 M) rfl ⟨by decide, by decide⟩ ⟨by decide, by decide⟩ rfl (Nat.le_of_ble_eq_true rfl) ?_
    refine zg_st (pc' := 13) (L' := [some (.inr 0), some (.inl p1), some (.inl p2), some (.inl p3), none]) (S' := [.inl (bI ((f_X5_isCell p1 p3)))]) (M' := M) rfl rfl rfl rfl ?_
    refine zg_ifbe (tgt := 20) dX5_isSpoilt_13 rfl (fun c13 => ?_) (fun c13 => ?_)
    · refine zg_st (pc' := 16) (L' := [some (.inr 0), some (.inl p1), some (.inl p2), some (.inl p3), none]) (S' := []) (M' := M) rfl rfl rfl rfl ?_
      refine zg_iconst (v := 1) dX5_isSpoilt_16 rfl ?_
      refine zg_goto (tgt := 21) dX5_isSpoilt_17 rfl ?_
      refine zg_st (pc' := 21) (L' := [some (.inr 0), some (.inl p1), some (.inl p2), some (.inl p3), none]) (S' := [.inl 1]) (M' := M) rfl rfl rfl rfl ?_
      refine zg_istore dX5_isSpoilt_21 (by decide) ?_
      refine zg_st (pc' := 23) (L' := [some (.inr 0), some (.inl p1), some (.inl p2), some (.inl p3), some (.inl 1)]) (S' := []) (M' := M) rfl rfl rfl rfl ?_
      refine zg_aload_n (x := 0) dX5_isSpoilt_23 rfl ?_
      refine zg_iload (x := 1) dX5_isSpoilt_24 rfl ?_
      refine zg_jt (tgt := 33) dX5_isSpoilt_26 rfl (show ¬ (1 : Int32) = 0 from by decide) ?_
      refine zg_st (pc' := 33) (L' := [some (.inr 0), some (.inl p1), some (.inl p2), some (.inl p3), some (.inl 1)]) (S' := [.inr 0]) (M' := M) rfl rfl rfl rfl ?_
      refine zg_aload_n (x := 0) dX5_isSpoilt_33 rfl ?_
      refine zg_getf (v := .inr 10) dX5_isSpoilt_34 zf_X5_42 rfl rfl rfl ?_
      refine zg_iconst (v := 2) dX5_isSpoilt_37 rfl ?_
      refine zg_iload_n (x := p1) dX5_isSpoilt_38 rfl ?_
      refine zg_imul dX5_isSpoilt_39 ?_
      refine zg_iload_n (x := p2) dX5_isSpoilt_40 rfl ?_
      refine zg_iadd dX5_isSpoilt_41 ?_
      refine zg_zald dX5_isSpoilt_42 rfl (by first | with_reducible exact z_s6 c5 | with_reducible exact z_c120 c13 | with_reducible exact z_c240 c13 c5) ?_
      refine zg_ifz (tgt := 50) dX5_isSpoilt_43 rfl rfl (fun c43 => ?_) (fun c43 => ?_)
      · refine zg_st (pc' := 50) (L' := [some (.inr 0), some (.inl p1), some (.inl p2), some (.inl p3), some (.inl 1)]) (S' := [.inr 0]) (M' := M) rfl rfl rfl rfl ?_
        refine zg_iconst (v := 0) dX5_isSpoilt_50 rfl ?_
        refine zg_cV1 (As := [.inl 0]) (S := []) (v := 0) (N0 := (mup M 0 0 0)) dX5_isSpoilt_51 zk_X5_74 (k_X5_refused q 0 M) rfl rfl ⟨by decide, by decide⟩ ⟨by decide, by decide⟩ rfl (Nat.le_of_ble_eq_true rfl) ?_
        refine zg_st (pc' := 54) (L' := [some (.inr 0), some (.inl p1), some (.inl p2), some (.inl p3), some (.inl 1)]) (S' := [.inl 0]) (M' := (mup M 0 0 0)) rfl rfl rfl rfl ?_
        refine zg_jf (tgt := 93) dX5_isSpoilt_54 rfl (show ¬ (¬ (0 : Int32) = 0) from by decide) ?_
        refine zg_st (pc' := 57) (L' := [some (.inr 0), some (.inl p1), some (.inl p2), some (.inl p3), some (.inl 1)]) (S' := []) (M' := (mup M 0 0 0)) rfl rfl rfl rfl ?_
        refine zg_aload_n (x := 0) dX5_isSpoilt_57 rfl ?_
        refine zg_getf (v := .inr 8) dX5_isSpoilt_58 zf_X5_35 rfl rfl rfl ?_
        refine zg_bipush (v := 40) dX5_isSpoilt_61 rfl ?_
        refine zg_iload_n (x := p1) dX5_isSpoilt_63 rfl ?_
        refine zg_imul dX5_isSpoilt_64 ?_
        refine zg_iload_n (x := p3) dX5_isSpoilt_65 rfl ?_
        refine zg_iadd dX5_isSpoilt_66 ?_
        refine zg_zald dX5_isSpoilt_67 rfl (by first | with_reducible exact z_s6 c5 | with_reducible exact z_c120 c13 | with_reducible exact z_c240 c13 c5) ?_
        refine zg_ifz (tgt := 93) dX5_isSpoilt_68 rfl rfl (fun c68 => ?_) (fun c68 => ?_)
        · refine zg_st (pc' := 93) (L' := [some (.inr 0), some (.inl p1), some (.inl p2), some (.inl p3), some (.inl 1)]) (S' := []) (M' := (mup M 0 0 0)) rfl rfl rfl rfl ?_
          refine zg_iconst (v := 0) dX5_isSpoilt_93 rfl ?_
          exact zg_iret dX5_isSpoilt_94 rfl rfl ⟨by decide, by decide⟩ rfl
        · refine zg_st (pc' := 71) (L' := [some (.inr 0), some (.inl p1), some (.inl p2), some (.inl p3), some (.inl 1)]) (S' := []) (M' := (mup M 0 0 0)) rfl rfl rfl rfl ?_
          refine zg_aload_n (x := 0) dX5_isSpoilt_71 rfl ?_
          refine zg_getf (v := .inr 9) dX5_isSpoilt_72 zf_X5_39 rfl rfl rfl ?_
          refine zg_iconst (v := 2) dX5_isSpoilt_75 rfl ?_
          refine zg_bipush (v := 40) dX5_isSpoilt_76 rfl ?_
          refine zg_iload_n (x := p1) dX5_isSpoilt_78 rfl ?_
          refine zg_imul dX5_isSpoilt_79 ?_
          refine zg_iload_n (x := p3) dX5_isSpoilt_80 rfl ?_
          refine zg_iadd dX5_isSpoilt_81 ?_
          refine zg_imul dX5_isSpoilt_82 ?_
          refine zg_iload_n (x := p2) dX5_isSpoilt_83 rfl ?_
          refine zg_iadd dX5_isSpoilt_84 ?_
          refine zg_zald dX5_isSpoilt_85 rfl (by first | with_reducible exact z_s6 c5 | with_reducible exact z_c120 c13 | with_reducible exact z_c240 c13 c5) ?_
          refine zg_ifz (tgt := 93) dX5_isSpoilt_86 rfl rfl (fun c86 => ?_) (fun c86 => ?_)
          · refine zg_st (pc' := 93) (L' := [some (.inr 0), some (.inl p1), some (.inl p2), some (.inl p3), some (.inl 1)]) (S' := []) (M' := (mup M 0 0 0)) rfl rfl rfl rfl ?_
            refine zg_iconst (v := 0) dX5_isSpoilt_93 rfl ?_
            exact zg_iret dX5_isSpoilt_94 rfl rfl ⟨by decide, by decide⟩ rfl
          · refine zg_st (pc' := 89) (L' := [some (.inr 0), some (.inl p1), some (.inl p2), some (.inl p3), some (.inl 1)]) (S' := []) (M' := (mup M 0 0 0)) rfl rfl rfl rfl ?_
            refine zg_iconst (v := 1) dX5_isSpoilt_89 rfl ?_
            refine zg_goto (tgt := 94) dX5_isSpoilt_90 rfl ?_
            refine zg_st (pc' := 94) (L' := [some (.inr 0), some (.inl p1), some (.inl p2), some (.inl p3), some (.inl 1)]) (S' := [.inl 1]) (M' := (mup M 0 0 0)) rfl rfl rfl rfl ?_
            exact zg_iret dX5_isSpoilt_94 rfl rfl ⟨by decide, by decide⟩ rfl
      · refine zg_st (pc' := 46) (L' := [some (.inr 0), some (.inl p1), some (.inl p2), some (.inl p3), some (.inl 1)]) (S' := [.inr 0]) (M' := M) rfl rfl rfl rfl ?_
        refine zg_iconst (v := 2) dX5_isSpoilt_46 rfl ?_
        refine zg_goto (tgt := 51) dX5_isSpoilt_47 rfl ?_
        refine zg_st (pc' := 51) (L' := [some (.inr 0), some (.inl p1), some (.inl p2), some (.inl p3), some (.inl 1)]) (S' := [.inl 2, .inr 0]) (M' := M) rfl rfl rfl rfl ?_
        refine zg_cV1 (As := [.inl 2]) (S := []) (v := 1) (N0 := (mup M 0 0 2)) dX5_isSpoilt_51 zk_X5_74 (k_X5_refused q 2 M) rfl rfl ⟨by decide, by decide⟩ ⟨by decide, by decide⟩ rfl (Nat.le_of_ble_eq_true rfl) ?_
        refine zg_st (pc' := 54) (L' := [some (.inr 0), some (.inl p1), some (.inl p2), some (.inl p3), some (.inl 1)]) (S' := [.inl 1]) (M' := (mup M 0 0 2)) rfl rfl rfl rfl ?_
        refine zg_jt (tgt := 93) dX5_isSpoilt_54 rfl (show ¬ (1 : Int32) = 0 from by decide) ?_
        refine zg_st (pc' := 93) (L' := [some (.inr 0), some (.inl p1), some (.inl p2), some (.inl p3), some (.inl 1)]) (S' := []) (M' := (mup M 0 0 2)) rfl rfl rfl rfl ?_
        refine zg_iconst (v := 0) dX5_isSpoilt_93 rfl ?_
        exact zg_iret dX5_isSpoilt_94 rfl rfl ⟨by decide, by decide⟩ rfl
    · refine zg_st (pc' := 20) (L' := [some (.inr 0), some (.inl p1), some (.inl p2), some (.inl p3), none]) (S' := []) (M' := M) rfl rfl rfl rfl ?_
      refine zg_iconst (v := 0) dX5_isSpoilt_20 rfl ?_
      refine zg_istore dX5_isSpoilt_21 (by decide) ?_
      refine zg_st (pc' := 23) (L' := [some (.inr 0), some (.inl p1), some (.inl p2), some (.inl p3), some (.inl 0)]) (S' := []) (M' := M) rfl rfl rfl rfl ?_
      refine zg_aload_n (x := 0) dX5_isSpoilt_23 rfl ?_
      refine zg_iload (x := 0) dX5_isSpoilt_24 rfl ?_
      refine zg_jf (tgt := 33) dX5_isSpoilt_26 rfl (show ¬ (¬ (0 : Int32) = 0) from by decide) ?_
      refine zg_st (pc' := 29) (L' := [some (.inr 0), some (.inl p1), some (.inl p2), some (.inl p3), some (.inl 0)]) (S' := [.inr 0]) (M' := M) rfl rfl rfl rfl ?_
      refine zg_iconst (v := 1) dX5_isSpoilt_29 rfl ?_
      refine zg_goto (tgt := 51) dX5_isSpoilt_30 rfl ?_
      refine zg_st (pc' := 51) (L' := [some (.inr 0), some (.inl p1), some (.inl p2), some (.inl p3), some (.inl 0)]) (S' := [.inl 1, .inr 0]) (M' := M) rfl rfl rfl rfl ?_
      refine zg_cV1 (As := [.inl 1]) (S := []) (v := 1) (N0 := (mup M 0 0 1)) dX5_isSpoilt_51 zk_X5_74 (k_X5_refused q 1 M) rfl rfl ⟨by decide, by decide⟩ ⟨by decide, by decide⟩ rfl (Nat.le_of_ble_eq_true rfl) ?_
      refine zg_st (pc' := 54) (L' := [some (.inr 0), some (.inl p1), some (.inl p2), some (.inl p3), some (.inl 0)]) (S' := [.inl 1]) (M' := (mup M 0 0 1)) rfl rfl rfl rfl ?_
      refine zg_jt (tgt := 93) dX5_isSpoilt_54 rfl (show ¬ (1 : Int32) = 0 from by decide) ?_
      refine zg_st (pc' := 93) (L' := [some (.inr 0), some (.inl p1), some (.inl p2), some (.inl p3), some (.inl 0)]) (S' := []) (M' := (mup M 0 0 1)) rfl rfl rfl rfl ?_
      refine zg_iconst (v := 0) dX5_isSpoilt_93 rfl ?_
      exact zg_iret dX5_isSpoilt_94 rfl rfl ⟨by decide, by decide⟩ rfl
  · refine zg_st (pc' := 20) (L' := [some (.inr 0), some (.inl p1), some (.inl p2), some (.inl p3), none]) (S' := []) (M' := M) rfl rfl rfl rfl ?_
    refine zg_iconst (v := 0) dX5_isSpoilt_20 rfl ?_
    refine zg_istore dX5_isSpoilt_21 (by decide) ?_
    refine zg_st (pc' := 23) (L' := [some (.inr 0), some (.inl p1), some (.inl p2), some (.inl p3), some (.inl 0)]) (S' := []) (M' := M) rfl rfl rfl rfl ?_
    refine zg_aload_n (x := 0) dX5_isSpoilt_23 rfl ?_
    refine zg_iload (x := 0) dX5_isSpoilt_24 rfl ?_
    refine zg_jf (tgt := 33) dX5_isSpoilt_26 rfl (show ¬ (¬ (0 : Int32) = 0) from by decide) ?_
    refine zg_st (pc' := 29) (L' := [some (.inr 0), some (.inl p1), some (.inl p2), some (.inl p3), some (.inl 0)]) (S' := [.inr 0]) (M' := M) rfl rfl rfl rfl ?_
    refine zg_iconst (v := 1) dX5_isSpoilt_29 rfl ?_
    refine zg_goto (tgt := 51) dX5_isSpoilt_30 rfl ?_
    refine zg_st (pc' := 51) (L' := [some (.inr 0), some (.inl p1), some (.inl p2), some (.inl p3), some (.inl 0)]) (S' := [.inl 1, .inr 0]) (M' := M) rfl rfl rfl rfl ?_
    refine zg_cV1 (As := [.inl 1]) (S := []) (v := 1) (N0 := (mup M 0 0 1)) dX5_isSpoilt_51 zk_X5_74 (k_X5_refused q 1 M) rfl rfl ⟨by decide, by decide⟩ ⟨by decide, by decide⟩ rfl (Nat.le_of_ble_eq_true rfl) ?_
    refine zg_st (pc' := 54) (L' := [some (.inr 0), some (.inl p1), some (.inl p2), some (.inl p3), some (.inl 0)]) (S' := [.inl 1]) (M' := (mup M 0 0 1)) rfl rfl rfl rfl ?_
    refine zg_jt (tgt := 93) dX5_isSpoilt_54 rfl (show ¬ (1 : Int32) = 0 from by decide) ?_
    refine zg_st (pc' := 93) (L' := [some (.inr 0), some (.inl p1), some (.inl p2), some (.inl p3), some (.inl 0)]) (S' := []) (M' := (mup M 0 0 1)) rfl rfl rfl rfl ?_
    refine zg_iconst (v := 0) dX5_isSpoilt_93 rfl ?_
    exact zg_iret dX5_isSpoilt_94 rfl rfl ⟨by decide, by decide⟩ rfl
theorem dX5_places_0 : decode cX5_places 0 = .ok (.aload_n 0, 1) := by decide +kernel
theorem dX5_places_1 : decode cX5_places 1 = .ok (.iload_n 1, 1) := by decide +kernel
theorem dX5_places_2 : decode cX5_places 2 = .ok (.iload_n 2, 1) := by decide +kernel
theorem dX5_places_3 : decode cX5_places 3 = .ok (.invokestatic 70, 3) := by decide +kernel
theorem dX5_places_6 : decode cX5_places 6 = .ok (.ifCond .eq 7, 3) := by decide +kernel
theorem dX5_places_9 : decode cX5_places 9 = .ok (.iconst 0, 1) := by decide +kernel
theorem dX5_places_10 : decode cX5_places 10 = .ok (.goto 4, 3) := by decide +kernel
theorem dX5_places_13 : decode cX5_places 13 = .ok (.iconst 1, 1) := by decide +kernel
theorem dX5_places_14 : decode cX5_places 14 = .ok (.invokevirtual 74, 3) := by decide +kernel
theorem dX5_places_17 : decode cX5_places 17 = .ok (.ifCond .eq 5, 3) := by decide +kernel
theorem dX5_places_20 : decode cX5_places 20 = .ok (.iconst 0, 1) := by decide +kernel
theorem dX5_places_21 : decode cX5_places 21 = .ok (.ireturn, 1) := by decide +kernel
theorem dX5_places_22 : decode cX5_places 22 = .ok (.bipush 12, 2) := by decide +kernel
theorem dX5_places_24 : decode cX5_places 24 = .ok (.iload_n 1, 1) := by decide +kernel
theorem dX5_places_25 : decode cX5_places 25 = .ok (.imul, 1) := by decide +kernel
theorem dX5_places_26 : decode cX5_places 26 = .ok (.iload_n 2, 1) := by decide +kernel
theorem dX5_places_27 : decode cX5_places 27 = .ok (.iadd, 1) := by decide +kernel
theorem dX5_places_28 : decode cX5_places 28 = .ok (.istore_n 3, 1) := by decide +kernel
theorem dX5_places_29 : decode cX5_places 29 = .ok (.aload_n 0, 1) := by decide +kernel
theorem dX5_places_30 : decode cX5_places 30 = .ok (.getfield 23, 3) := by decide +kernel
theorem dX5_places_33 : decode cX5_places 33 = .ok (.iload_n 3, 1) := by decide +kernel
theorem dX5_places_34 : decode cX5_places 34 = .ok (.iaload, 1) := by decide +kernel
theorem dX5_places_35 : decode cX5_places 35 = .ok (.iconst (-1), 1) := by decide +kernel
theorem dX5_places_36 : decode cX5_places 36 = .ok (.if_icmp .ne 7, 3) := by decide +kernel
theorem dX5_places_39 : decode cX5_places 39 = .ok (.iconst 0, 1) := by decide +kernel
theorem dX5_places_40 : decode cX5_places 40 = .ok (.goto 4, 3) := by decide +kernel
theorem dX5_places_43 : decode cX5_places 43 = .ok (.iconst 1, 1) := by decide +kernel
theorem dX5_places_44 : decode cX5_places 44 = .ok (.aload_n 0, 1) := by decide +kernel
theorem dX5_places_45 : decode cX5_places 45 = .ok (.getfield 26, 3) := by decide +kernel
theorem dX5_places_48 : decode cX5_places 48 = .ok (.iload_n 3, 1) := by decide +kernel
theorem dX5_places_49 : decode cX5_places 49 = .ok (.iaload, 1) := by decide +kernel
theorem dX5_places_50 : decode cX5_places 50 = .ok (.iconst (-1), 1) := by decide +kernel
theorem dX5_places_51 : decode cX5_places 51 = .ok (.if_icmp .ne 7, 3) := by decide +kernel
theorem dX5_places_54 : decode cX5_places 54 = .ok (.iconst 0, 1) := by decide +kernel
theorem dX5_places_55 : decode cX5_places 55 = .ok (.goto 4, 3) := by decide +kernel
theorem dX5_places_58 : decode cX5_places 58 = .ok (.iconst 1, 1) := by decide +kernel
theorem dX5_places_59 : decode cX5_places 59 = .ok (.iadd, 1) := by decide +kernel
theorem dX5_places_60 : decode cX5_places 60 = .ok (.ireturn, 1) := by decide +kernel
def f_X5_places (p1 : Int32) (p2 : Int32) (M : Mem) : (Int32 × Mem) :=
  if (f_X5_isBlock p1 p2) then if ¬ ((mup M 0 0 0) 4 ((12 * p1) + p2).toNatClampNeg) = (-1) then if ¬ ((mup M 0 0 0) 5 ((12 * p1) + p2).toNatClampNeg) = (-1) then (((1 : Int32) + 1), (mup M 0 0 0))
      else (((1 : Int32) + 0), (mup M 0 0 0))
    else if ¬ ((mup M 0 0 0) 5 ((12 * p1) + p2).toNatClampNeg) = (-1) then (((0 : Int32) + 1), (mup M 0 0 0))
    else (((0 : Int32) + 0), (mup M 0 0 0))
  else (0, (mup M 0 0 1))
set_option maxRecDepth 100000 in
set_option maxHeartbeats 4000000 in
theorem k_X5_places (q : ZQ) (p1 : Int32) (p2 : Int32) (M : Mem) : Zc (zgM q) mX5_places 0 0 [.inr 0, .inl p1, .inl p2] M (wIM (f_X5_places p1 p2 M)) := by
  refine Zc.of (by decide) zi_X5_places.1 (Nat.le_of_ble_eq_true rfl) rfl ?_
  show Zg _ _ _ _ _ _ (zlet (f_X5_places p1 p2 M) wIM) _ _ _ _
  unfold f_X5_places
  refine zg_aload_n (x := 0) dX5_places_0 rfl ?_
  refine zg_iload_n (x := p1) dX5_places_1 rfl ?_
  refine zg_iload_n (x := p2) dX5_places_2 rfl ?_
  refine zg_cS1 (As := [.inl p1, .inl p2]) (S := [.inr 0]) (v := bI ((f_X5_isBlock p1 p2))) dX5_places_3 zk_X5_70 (k_X5_isBlock q p1 p2 M) rfl ⟨by decide, by decide⟩ ⟨by decide, by decide⟩ rfl (Nat.le_of_ble_eq_true rfl) ?_
  refine zg_st (pc' := 6) (L' := [some (.inr 0), some (.inl p1), some (.inl p2), none]) (S' := [.inl (bI ((f_X5_isBlock p1 p2))), .inr 0]) (M' := M) rfl rfl rfl rfl ?_
  refine zg_ifbe (tgt := 13) dX5_places_6 rfl (fun c6 => ?_) (fun c6 => ?_)
  · refine zg_st (pc' := 9) (L' := [some (.inr 0), some (.inl p1), some (.inl p2), none]) (S' := [.inr 0]) (M' := M) rfl rfl rfl rfl ?_
    refine zg_iconst (v := 0) dX5_places_9 rfl ?_
    refine zg_goto (tgt := 14) dX5_places_10 rfl ?_
    refine zg_st (pc' := 14) (L' := [some (.inr 0), some (.inl p1), some (.inl p2), none]) (S' := [.inl 0, .inr 0]) (M' := M) rfl rfl rfl rfl ?_
    refine zg_cV1 (As := [.inl 0]) (S := []) (v := 0) (N0 := (mup M 0 0 0)) dX5_places_14 zk_X5_74 (k_X5_refused q 0 M) rfl rfl ⟨by decide, by decide⟩ ⟨by decide, by decide⟩ rfl (Nat.le_of_ble_eq_true rfl) ?_
    refine zg_st (pc' := 17) (L' := [some (.inr 0), some (.inl p1), some (.inl p2), none]) (S' := [.inl 0]) (M' := (mup M 0 0 0)) rfl rfl rfl rfl ?_
    refine zg_jt (tgt := 22) dX5_places_17 rfl (show (0 : Int32) = 0 from by decide) ?_
    refine zg_st (pc' := 22) (L' := [some (.inr 0), some (.inl p1), some (.inl p2), none]) (S' := []) (M' := (mup M 0 0 0)) rfl rfl rfl rfl ?_
    refine zg_bipush (v := 12) dX5_places_22 rfl ?_
    refine zg_iload_n (x := p1) dX5_places_24 rfl ?_
    refine zg_imul dX5_places_25 ?_
    refine zg_iload_n (x := p2) dX5_places_26 rfl ?_
    refine zg_iadd dX5_places_27 ?_
    refine zg_istore_n dX5_places_28 (by decide) ?_
    refine zg_st (pc' := 29) (L' := [some (.inr 0), some (.inl p1), some (.inl p2), some (.inl ((12 * p1) + p2))]) (S' := []) (M' := (mup M 0 0 0)) rfl rfl rfl rfl ?_
    refine zg_aload_n (x := 0) dX5_places_29 rfl ?_
    refine zg_getf (v := .inr 4) dX5_places_30 zf_X5_23 rfl rfl rfl ?_
    refine zg_iload_n (x := ((12 * p1) + p2)) dX5_places_33 rfl ?_
    refine zg_iald dX5_places_34 rfl (z_b53 c6) ?_
    refine zg_iconst (v := (-1)) dX5_places_35 rfl ?_
    refine zg_icmpz (tgt := 43) dX5_places_36 rfl rfl (fun c36 => ?_) (fun c36 => ?_)
    · refine zg_st (pc' := 43) (L' := [some (.inr 0), some (.inl p1), some (.inl p2), some (.inl ((12 * p1) + p2))]) (S' := []) (M' := (mup M 0 0 0)) rfl rfl rfl rfl ?_
      refine zg_iconst (v := 1) dX5_places_43 rfl ?_
      refine zg_aload_n (x := 0) dX5_places_44 rfl ?_
      refine zg_getf (v := .inr 5) dX5_places_45 zf_X5_26 rfl rfl rfl ?_
      refine zg_iload_n (x := ((12 * p1) + p2)) dX5_places_48 rfl ?_
      refine zg_iald dX5_places_49 rfl (z_b53 c6) ?_
      refine zg_iconst (v := (-1)) dX5_places_50 rfl ?_
      refine zg_icmpz (tgt := 58) dX5_places_51 rfl rfl (fun c51 => ?_) (fun c51 => ?_)
      · refine zg_st (pc' := 58) (L' := [some (.inr 0), some (.inl p1), some (.inl p2), some (.inl ((12 * p1) + p2))]) (S' := [.inl 1]) (M' := (mup M 0 0 0)) rfl rfl rfl rfl ?_
        refine zg_iconst (v := 1) dX5_places_58 rfl ?_
        refine zg_iadd dX5_places_59 ?_
        exact zg_iret dX5_places_60 rfl rfl ⟨by decide, by decide⟩ rfl
      · refine zg_st (pc' := 54) (L' := [some (.inr 0), some (.inl p1), some (.inl p2), some (.inl ((12 * p1) + p2))]) (S' := [.inl 1]) (M' := (mup M 0 0 0)) rfl rfl rfl rfl ?_
        refine zg_iconst (v := 0) dX5_places_54 rfl ?_
        refine zg_goto (tgt := 59) dX5_places_55 rfl ?_
        refine zg_st (pc' := 59) (L' := [some (.inr 0), some (.inl p1), some (.inl p2), some (.inl ((12 * p1) + p2))]) (S' := [.inl 0, .inl 1]) (M' := (mup M 0 0 0)) rfl rfl rfl rfl ?_
        refine zg_iadd dX5_places_59 ?_
        exact zg_iret dX5_places_60 rfl rfl ⟨by decide, by decide⟩ rfl
    · refine zg_st (pc' := 39) (L' := [some (.inr 0), some (.inl p1), some (.inl p2), some (.inl ((12 * p1) + p2))]) (S' := []) (M' := (mup M 0 0 0)) rfl rfl rfl rfl ?_
      refine zg_iconst (v := 0) dX5_places_39 rfl ?_
      refine zg_goto (tgt := 44) dX5_places_40 rfl ?_
      refine zg_st (pc' := 44) (L' := [some (.inr 0), some (.inl p1), some (.inl p2), some (.inl ((12 * p1) + p2))]) (S' := [.inl 0]) (M' := (mup M 0 0 0)) rfl rfl rfl rfl ?_
      refine zg_aload_n (x := 0) dX5_places_44 rfl ?_
      refine zg_getf (v := .inr 5) dX5_places_45 zf_X5_26 rfl rfl rfl ?_
      refine zg_iload_n (x := ((12 * p1) + p2)) dX5_places_48 rfl ?_
      refine zg_iald dX5_places_49 rfl (z_b53 c6) ?_
      refine zg_iconst (v := (-1)) dX5_places_50 rfl ?_
      refine zg_icmpz (tgt := 58) dX5_places_51 rfl rfl (fun c51 => ?_) (fun c51 => ?_)
      · refine zg_st (pc' := 58) (L' := [some (.inr 0), some (.inl p1), some (.inl p2), some (.inl ((12 * p1) + p2))]) (S' := [.inl 0]) (M' := (mup M 0 0 0)) rfl rfl rfl rfl ?_
        refine zg_iconst (v := 1) dX5_places_58 rfl ?_
        refine zg_iadd dX5_places_59 ?_
        exact zg_iret dX5_places_60 rfl rfl ⟨by decide, by decide⟩ rfl
      · refine zg_st (pc' := 54) (L' := [some (.inr 0), some (.inl p1), some (.inl p2), some (.inl ((12 * p1) + p2))]) (S' := [.inl 0]) (M' := (mup M 0 0 0)) rfl rfl rfl rfl ?_
        refine zg_iconst (v := 0) dX5_places_54 rfl ?_
        refine zg_goto (tgt := 59) dX5_places_55 rfl ?_
        refine zg_st (pc' := 59) (L' := [some (.inr 0), some (.inl p1), some (.inl p2), some (.inl ((12 * p1) + p2))]) (S' := [.inl 0, .inl 0]) (M' := (mup M 0 0 0)) rfl rfl rfl rfl ?_
        refine zg_iadd dX5_places_59 ?_
        exact zg_iret dX5_places_60 rfl rfl ⟨by decide, by decide⟩ rfl
  · refine zg_st (pc' := 13) (L' := [some (.inr 0), some (.inl p1), some (.inl p2), none]) (S' := [.inr 0]) (M' := M) rfl rfl rfl rfl ?_
    refine zg_iconst (v := 1) dX5_places_13 rfl ?_
    refine zg_cV1 (As := [.inl 1]) (S := []) (v := 1) (N0 := (mup M 0 0 1)) dX5_places_14 zk_X5_74 (k_X5_refused q 1 M) rfl rfl ⟨by decide, by decide⟩ ⟨by decide, by decide⟩ rfl (Nat.le_of_ble_eq_true rfl) ?_
    refine zg_st (pc' := 17) (L' := [some (.inr 0), some (.inl p1), some (.inl p2), none]) (S' := [.inl 1]) (M' := (mup M 0 0 1)) rfl rfl rfl rfl ?_
    refine zg_jf (tgt := 22) dX5_places_17 rfl (show ¬ ((1 : Int32) = 0) from by decide) ?_
    refine zg_st (pc' := 20) (L' := [some (.inr 0), some (.inl p1), some (.inl p2), none]) (S' := []) (M' := (mup M 0 0 1)) rfl rfl rfl rfl ?_
    refine zg_iconst (v := 0) dX5_places_20 rfl ?_
    exact zg_iret dX5_places_21 rfl rfl ⟨by decide, by decide⟩ rfl
theorem dX5_placeOf_0 : decode cX5_placeOf 0 = .ok (.iload_n 2, 1) := by decide +kernel
theorem dX5_placeOf_1 : decode cX5_placeOf 1 = .ok (.ifCond .ne 12, 3) := by decide +kernel
theorem dX5_placeOf_4 : decode cX5_placeOf 4 = .ok (.aload_n 0, 1) := by decide +kernel
theorem dX5_placeOf_5 : decode cX5_placeOf 5 = .ok (.getfield 23, 3) := by decide +kernel
theorem dX5_placeOf_8 : decode cX5_placeOf 8 = .ok (.iload_n 1, 1) := by decide +kernel
theorem dX5_placeOf_9 : decode cX5_placeOf 9 = .ok (.iaload, 1) := by decide +kernel
theorem dX5_placeOf_10 : decode cX5_placeOf 10 = .ok (.goto 18, 3) := by decide +kernel
theorem dX5_placeOf_13 : decode cX5_placeOf 13 = .ok (.iload_n 2, 1) := by decide +kernel
theorem dX5_placeOf_14 : decode cX5_placeOf 14 = .ok (.iconst 1, 1) := by decide +kernel
theorem dX5_placeOf_15 : decode cX5_placeOf 15 = .ok (.if_icmp .ne 12, 3) := by decide +kernel
theorem dX5_placeOf_18 : decode cX5_placeOf 18 = .ok (.aload_n 0, 1) := by decide +kernel
theorem dX5_placeOf_19 : decode cX5_placeOf 19 = .ok (.getfield 26, 3) := by decide +kernel
theorem dX5_placeOf_22 : decode cX5_placeOf 22 = .ok (.iload_n 1, 1) := by decide +kernel
theorem dX5_placeOf_23 : decode cX5_placeOf 23 = .ok (.iaload, 1) := by decide +kernel
theorem dX5_placeOf_24 : decode cX5_placeOf 24 = .ok (.goto 4, 3) := by decide +kernel
theorem dX5_placeOf_27 : decode cX5_placeOf 27 = .ok (.iconst (-1), 1) := by decide +kernel
theorem dX5_placeOf_28 : decode cX5_placeOf 28 = .ok (.istore 4, 2) := by decide +kernel
theorem dX5_placeOf_30 : decode cX5_placeOf 30 = .ok (.aload_n 0, 1) := by decide +kernel
theorem dX5_placeOf_31 : decode cX5_placeOf 31 = .ok (.iload 4, 2) := by decide +kernel
theorem dX5_placeOf_33 : decode cX5_placeOf 33 = .ok (.iconst (-1), 1) := by decide +kernel
theorem dX5_placeOf_34 : decode cX5_placeOf 34 = .ok (.if_icmp .ne 7, 3) := by decide +kernel
theorem dX5_placeOf_37 : decode cX5_placeOf 37 = .ok (.iload_n 3, 1) := by decide +kernel
theorem dX5_placeOf_38 : decode cX5_placeOf 38 = .ok (.goto 4, 3) := by decide +kernel
theorem dX5_placeOf_41 : decode cX5_placeOf 41 = .ok (.iconst 0, 1) := by decide +kernel
theorem dX5_placeOf_42 : decode cX5_placeOf 42 = .ok (.invokevirtual 74, 3) := by decide +kernel
theorem dX5_placeOf_45 : decode cX5_placeOf 45 = .ok (.ifCond .eq 7, 3) := by decide +kernel
theorem dX5_placeOf_48 : decode cX5_placeOf 48 = .ok (.iconst 0, 1) := by decide +kernel
theorem dX5_placeOf_49 : decode cX5_placeOf 49 = .ok (.goto 17, 3) := by decide +kernel
theorem dX5_placeOf_52 : decode cX5_placeOf 52 = .ok (.bipush 100, 2) := by decide +kernel
theorem dX5_placeOf_54 : decode cX5_placeOf 54 = .ok (.iload 4, 2) := by decide +kernel
theorem dX5_placeOf_56 : decode cX5_placeOf 56 = .ok (.bipush 40, 2) := by decide +kernel
theorem dX5_placeOf_58 : decode cX5_placeOf 58 = .ok (.idiv, 1) := by decide +kernel
theorem dX5_placeOf_59 : decode cX5_placeOf 59 = .ok (.imul, 1) := by decide +kernel
theorem dX5_placeOf_60 : decode cX5_placeOf 60 = .ok (.iload 4, 2) := by decide +kernel
theorem dX5_placeOf_62 : decode cX5_placeOf 62 = .ok (.bipush 40, 2) := by decide +kernel
theorem dX5_placeOf_64 : decode cX5_placeOf 64 = .ok (.irem, 1) := by decide +kernel
theorem dX5_placeOf_65 : decode cX5_placeOf 65 = .ok (.iadd, 1) := by decide +kernel
theorem dX5_placeOf_66 : decode cX5_placeOf 66 = .ok (.ireturn, 1) := by decide +kernel
def f_X5_placeOf (p1 : Int32) (p2 : Int32) (p3 : Int32) (M : Mem) : (Int32 × Mem) :=
  if ¬ p2 = 0 then if ¬ p2 = 1 then zlet (f_X5_refused p3 M) (fun q1 =>
      if q1.1 then (0, q1.2)
        else (((100 * (((-1) : Int32) / 40)) + (((-1) : Int32) - ((-1) : Int32) / 40 * 40)), q1.2))
    else if ¬ (M 5 p1.toNatClampNeg) = (-1) then (((100 * ((M 5 p1.toNatClampNeg) / 40)) + ((M 5 p1.toNatClampNeg) - (M 5 p1.toNatClampNeg) / 40 * 40)), (mup M 0 0 0))
    else zlet (f_X5_refused p3 M) (fun q2 =>
    if q2.1 then (0, q2.2)
      else (((100 * ((M 5 p1.toNatClampNeg) / 40)) + ((M 5 p1.toNatClampNeg) - (M 5 p1.toNatClampNeg) / 40 * 40)), q2.2))
  else if ¬ (M 4 p1.toNatClampNeg) = (-1) then (((100 * ((M 4 p1.toNatClampNeg) / 40)) + ((M 4 p1.toNatClampNeg) - (M 4 p1.toNatClampNeg) / 40 * 40)), (mup M 0 0 0))
  else zlet (f_X5_refused p3 M) (fun q3 =>
  if q3.1 then (0, q3.2)
    else (((100 * ((M 4 p1.toNatClampNeg) / 40)) + ((M 4 p1.toNatClampNeg) - (M 4 p1.toNatClampNeg) / 40 * 40)), q3.2))
set_option maxRecDepth 100000 in
set_option maxHeartbeats 4000000 in
theorem k_X5_placeOf (q : ZQ) (p1 : Int32) (p2 : Int32) (p3 : Int32) (M : Mem) (hp : vp_in p1 53) : Zc (zgM q) mX5_placeOf 0 0 [.inr 0, .inl p1, .inl p2, .inl p3] M (wIM (f_X5_placeOf p1 p2 p3 M)) := by
  refine Zc.of (by decide) zi_X5_placeOf.1 (Nat.le_of_ble_eq_true rfl) rfl ?_
  show Zg _ _ _ _ _ _ (zlet (f_X5_placeOf p1 p2 p3 M) wIM) _ _ _ _
  unfold f_X5_placeOf
  refine zg_iload_n (x := p2) dX5_placeOf_0 rfl ?_
  refine zg_ifz (tgt := 13) dX5_placeOf_1 rfl rfl (fun c1 => ?_) (fun c1 => ?_)
  · refine zg_st (pc' := 13) (L' := [some (.inr 0), some (.inl p1), some (.inl p2), some (.inl p3), none]) (S' := []) (M' := M) rfl rfl rfl rfl ?_
    refine zg_iload_n (x := p2) dX5_placeOf_13 rfl ?_
    refine zg_iconst (v := 1) dX5_placeOf_14 rfl ?_
    refine zg_icmpz (tgt := 27) dX5_placeOf_15 rfl rfl (fun c15 => ?_) (fun c15 => ?_)
    · refine zg_st (pc' := 27) (L' := [some (.inr 0), some (.inl p1), some (.inl p2), some (.inl p3), none]) (S' := []) (M' := M) rfl rfl rfl rfl ?_
      refine zg_iconst (v := (-1)) dX5_placeOf_27 rfl ?_
      refine zg_istore dX5_placeOf_28 (by decide) ?_
      refine zg_st (pc' := 30) (L' := [some (.inr 0), some (.inl p1), some (.inl p2), some (.inl p3), some (.inl (-1))]) (S' := []) (M' := M) rfl rfl rfl rfl ?_
      refine zg_aload_n (x := 0) dX5_placeOf_30 rfl ?_
      refine zg_iload (x := (-1)) dX5_placeOf_31 rfl ?_
      refine zg_iconst (v := (-1)) dX5_placeOf_33 rfl ?_
      refine zg_jf2 (tgt := 41) dX5_placeOf_34 rfl (show ¬ (¬ ((-1) : Int32) = (-1)) from by decide) ?_
      refine zg_st (pc' := 37) (L' := [some (.inr 0), some (.inl p1), some (.inl p2), some (.inl p3), some (.inl (-1))]) (S' := [.inr 0]) (M' := M) rfl rfl rfl rfl ?_
      refine zg_iload_n (x := p3) dX5_placeOf_37 rfl ?_
      refine zg_goto (tgt := 42) dX5_placeOf_38 rfl ?_
      refine zg_st (pc' := 42) (L' := [some (.inr 0), some (.inl p1), some (.inl p2), some (.inl p3), some (.inl (-1))]) (S' := [.inl p3, .inr 0]) (M' := M) rfl rfl rfl rfl ?_
      refine zg_cVBM (As := [.inl p3]) (S := []) dX5_placeOf_42 zk_X5_74 (k_X5_refused q p3 M) rfl rfl ⟨by decide, by decide⟩ ⟨by decide, by decide⟩ rfl (Nat.le_of_ble_eq_true rfl) (fun q1 e_q1 => ?_)
      try dsimp only
      refine zg_st (pc' := 45) (L' := [some (.inr 0), some (.inl p1), some (.inl p2), some (.inl p3), some (.inl (-1))]) (S' := [.inl (bI q1.1)]) (M' := q1.2) rfl rfl rfl rfl ?_
      refine zg_ifbe (tgt := 52) dX5_placeOf_45 rfl (fun c45 => ?_) (fun c45 => ?_)
      · refine zg_st (pc' := 48) (L' := [some (.inr 0), some (.inl p1), some (.inl p2), some (.inl p3), some (.inl (-1))]) (S' := []) (M' := q1.2) rfl rfl rfl rfl ?_
        refine zg_iconst (v := 0) dX5_placeOf_48 rfl ?_
        refine zg_goto (tgt := 66) dX5_placeOf_49 rfl ?_
        refine zg_st (pc' := 66) (L' := [some (.inr 0), some (.inl p1), some (.inl p2), some (.inl p3), some (.inl (-1))]) (S' := [.inl 0]) (M' := q1.2) rfl rfl rfl rfl ?_
        exact zg_iret dX5_placeOf_66 rfl rfl ⟨by decide, by decide⟩ rfl
      · refine zg_st (pc' := 52) (L' := [some (.inr 0), some (.inl p1), some (.inl p2), some (.inl p3), some (.inl (-1))]) (S' := []) (M' := q1.2) rfl rfl rfl rfl ?_
        refine zg_bipush (v := 100) dX5_placeOf_52 rfl ?_
        refine zg_iload (x := (-1)) dX5_placeOf_54 rfl ?_
        refine zg_bipush (v := 40) dX5_placeOf_56 rfl ?_
        refine zg_idiv dX5_placeOf_58 (by decide) ?_
        refine zg_imul dX5_placeOf_59 ?_
        refine zg_iload (x := (-1)) dX5_placeOf_60 rfl ?_
        refine zg_bipush (v := 40) dX5_placeOf_62 rfl ?_
        refine zg_irem dX5_placeOf_64 (by decide) ?_
        refine zg_iadd dX5_placeOf_65 ?_
        exact zg_iret dX5_placeOf_66 rfl rfl ⟨by decide, by decide⟩ rfl
    · refine zg_st (pc' := 18) (L' := [some (.inr 0), some (.inl p1), some (.inl p2), some (.inl p3), none]) (S' := []) (M' := M) rfl rfl rfl rfl ?_
      refine zg_aload_n (x := 0) dX5_placeOf_18 rfl ?_
      refine zg_getf (v := .inr 5) dX5_placeOf_19 zf_X5_26 rfl rfl rfl ?_
      refine zg_iload_n (x := p1) dX5_placeOf_22 rfl ?_
      refine zg_iald dX5_placeOf_23 rfl hp ?_
      refine zg_goto (tgt := 28) dX5_placeOf_24 rfl ?_
      refine zg_st (pc' := 28) (L' := [some (.inr 0), some (.inl p1), some (.inl p2), some (.inl p3), none]) (S' := [.inl (M 5 p1.toNatClampNeg)]) (M' := M) rfl rfl rfl rfl ?_
      refine zg_istore dX5_placeOf_28 (by decide) ?_
      refine zg_st (pc' := 30) (L' := [some (.inr 0), some (.inl p1), some (.inl p2), some (.inl p3), some (.inl (M 5 p1.toNatClampNeg))]) (S' := []) (M' := M) rfl rfl rfl rfl ?_
      refine zg_aload_n (x := 0) dX5_placeOf_30 rfl ?_
      refine zg_iload (x := (M 5 p1.toNatClampNeg)) dX5_placeOf_31 rfl ?_
      refine zg_iconst (v := (-1)) dX5_placeOf_33 rfl ?_
      refine zg_icmpz (tgt := 41) dX5_placeOf_34 rfl rfl (fun c34 => ?_) (fun c34 => ?_)
      · refine zg_st (pc' := 41) (L' := [some (.inr 0), some (.inl p1), some (.inl p2), some (.inl p3), some (.inl (M 5 p1.toNatClampNeg))]) (S' := [.inr 0]) (M' := M) rfl rfl rfl rfl ?_
        refine zg_iconst (v := 0) dX5_placeOf_41 rfl ?_
        refine zg_cV1 (As := [.inl 0]) (S := []) (v := 0) (N0 := (mup M 0 0 0)) dX5_placeOf_42 zk_X5_74 (k_X5_refused q 0 M) rfl rfl ⟨by decide, by decide⟩ ⟨by decide, by decide⟩ rfl (Nat.le_of_ble_eq_true rfl) ?_
        refine zg_st (pc' := 45) (L' := [some (.inr 0), some (.inl p1), some (.inl p2), some (.inl p3), some (.inl (M 5 p1.toNatClampNeg))]) (S' := [.inl 0]) (M' := (mup M 0 0 0)) rfl rfl rfl rfl ?_
        refine zg_jt (tgt := 52) dX5_placeOf_45 rfl (show (0 : Int32) = 0 from by decide) ?_
        refine zg_st (pc' := 52) (L' := [some (.inr 0), some (.inl p1), some (.inl p2), some (.inl p3), some (.inl (M 5 p1.toNatClampNeg))]) (S' := []) (M' := (mup M 0 0 0)) rfl rfl rfl rfl ?_
        refine zg_bipush (v := 100) dX5_placeOf_52 rfl ?_
        refine zg_iload (x := (M 5 p1.toNatClampNeg)) dX5_placeOf_54 rfl ?_
        refine zg_bipush (v := 40) dX5_placeOf_56 rfl ?_
        refine zg_idiv dX5_placeOf_58 (by decide) ?_
        refine zg_imul dX5_placeOf_59 ?_
        refine zg_iload (x := (M 5 p1.toNatClampNeg)) dX5_placeOf_60 rfl ?_
        refine zg_bipush (v := 40) dX5_placeOf_62 rfl ?_
        refine zg_irem dX5_placeOf_64 (by decide) ?_
        refine zg_iadd dX5_placeOf_65 ?_
        exact zg_iret dX5_placeOf_66 rfl rfl ⟨by decide, by decide⟩ rfl
      · refine zg_st (pc' := 37) (L' := [some (.inr 0), some (.inl p1), some (.inl p2), some (.inl p3), some (.inl (M 5 p1.toNatClampNeg))]) (S' := [.inr 0]) (M' := M) rfl rfl rfl rfl ?_
        refine zg_iload_n (x := p3) dX5_placeOf_37 rfl ?_
        refine zg_goto (tgt := 42) dX5_placeOf_38 rfl ?_
        refine zg_st (pc' := 42) (L' := [some (.inr 0), some (.inl p1), some (.inl p2), some (.inl p3), some (.inl (M 5 p1.toNatClampNeg))]) (S' := [.inl p3, .inr 0]) (M' := M) rfl rfl rfl rfl ?_
        refine zg_cVBM (As := [.inl p3]) (S := []) dX5_placeOf_42 zk_X5_74 (k_X5_refused q p3 M) rfl rfl ⟨by decide, by decide⟩ ⟨by decide, by decide⟩ rfl (Nat.le_of_ble_eq_true rfl) (fun q2 e_q2 => ?_)
        try dsimp only
        refine zg_st (pc' := 45) (L' := [some (.inr 0), some (.inl p1), some (.inl p2), some (.inl p3), some (.inl (M 5 p1.toNatClampNeg))]) (S' := [.inl (bI q2.1)]) (M' := q2.2) rfl rfl rfl rfl ?_
        refine zg_ifbe (tgt := 52) dX5_placeOf_45 rfl (fun c45 => ?_) (fun c45 => ?_)
        · refine zg_st (pc' := 48) (L' := [some (.inr 0), some (.inl p1), some (.inl p2), some (.inl p3), some (.inl (M 5 p1.toNatClampNeg))]) (S' := []) (M' := q2.2) rfl rfl rfl rfl ?_
          refine zg_iconst (v := 0) dX5_placeOf_48 rfl ?_
          refine zg_goto (tgt := 66) dX5_placeOf_49 rfl ?_
          refine zg_st (pc' := 66) (L' := [some (.inr 0), some (.inl p1), some (.inl p2), some (.inl p3), some (.inl (M 5 p1.toNatClampNeg))]) (S' := [.inl 0]) (M' := q2.2) rfl rfl rfl rfl ?_
          exact zg_iret dX5_placeOf_66 rfl rfl ⟨by decide, by decide⟩ rfl
        · refine zg_st (pc' := 52) (L' := [some (.inr 0), some (.inl p1), some (.inl p2), some (.inl p3), some (.inl (M 5 p1.toNatClampNeg))]) (S' := []) (M' := q2.2) rfl rfl rfl rfl ?_
          refine zg_bipush (v := 100) dX5_placeOf_52 rfl ?_
          refine zg_iload (x := (M 5 p1.toNatClampNeg)) dX5_placeOf_54 rfl ?_
          refine zg_bipush (v := 40) dX5_placeOf_56 rfl ?_
          refine zg_idiv dX5_placeOf_58 (by decide) ?_
          refine zg_imul dX5_placeOf_59 ?_
          refine zg_iload (x := (M 5 p1.toNatClampNeg)) dX5_placeOf_60 rfl ?_
          refine zg_bipush (v := 40) dX5_placeOf_62 rfl ?_
          refine zg_irem dX5_placeOf_64 (by decide) ?_
          refine zg_iadd dX5_placeOf_65 ?_
          exact zg_iret dX5_placeOf_66 rfl rfl ⟨by decide, by decide⟩ rfl
  · refine zg_st (pc' := 4) (L' := [some (.inr 0), some (.inl p1), some (.inl p2), some (.inl p3), none]) (S' := []) (M' := M) rfl rfl rfl rfl ?_
    refine zg_aload_n (x := 0) dX5_placeOf_4 rfl ?_
    refine zg_getf (v := .inr 4) dX5_placeOf_5 zf_X5_23 rfl rfl rfl ?_
    refine zg_iload_n (x := p1) dX5_placeOf_8 rfl ?_
    refine zg_iald dX5_placeOf_9 rfl hp ?_
    refine zg_goto (tgt := 28) dX5_placeOf_10 rfl ?_
    refine zg_st (pc' := 28) (L' := [some (.inr 0), some (.inl p1), some (.inl p2), some (.inl p3), none]) (S' := [.inl (M 4 p1.toNatClampNeg)]) (M' := M) rfl rfl rfl rfl ?_
    refine zg_istore dX5_placeOf_28 (by decide) ?_
    refine zg_st (pc' := 30) (L' := [some (.inr 0), some (.inl p1), some (.inl p2), some (.inl p3), some (.inl (M 4 p1.toNatClampNeg))]) (S' := []) (M' := M) rfl rfl rfl rfl ?_
    refine zg_aload_n (x := 0) dX5_placeOf_30 rfl ?_
    refine zg_iload (x := (M 4 p1.toNatClampNeg)) dX5_placeOf_31 rfl ?_
    refine zg_iconst (v := (-1)) dX5_placeOf_33 rfl ?_
    refine zg_icmpz (tgt := 41) dX5_placeOf_34 rfl rfl (fun c34 => ?_) (fun c34 => ?_)
    · refine zg_st (pc' := 41) (L' := [some (.inr 0), some (.inl p1), some (.inl p2), some (.inl p3), some (.inl (M 4 p1.toNatClampNeg))]) (S' := [.inr 0]) (M' := M) rfl rfl rfl rfl ?_
      refine zg_iconst (v := 0) dX5_placeOf_41 rfl ?_
      refine zg_cV1 (As := [.inl 0]) (S := []) (v := 0) (N0 := (mup M 0 0 0)) dX5_placeOf_42 zk_X5_74 (k_X5_refused q 0 M) rfl rfl ⟨by decide, by decide⟩ ⟨by decide, by decide⟩ rfl (Nat.le_of_ble_eq_true rfl) ?_
      refine zg_st (pc' := 45) (L' := [some (.inr 0), some (.inl p1), some (.inl p2), some (.inl p3), some (.inl (M 4 p1.toNatClampNeg))]) (S' := [.inl 0]) (M' := (mup M 0 0 0)) rfl rfl rfl rfl ?_
      refine zg_jt (tgt := 52) dX5_placeOf_45 rfl (show (0 : Int32) = 0 from by decide) ?_
      refine zg_st (pc' := 52) (L' := [some (.inr 0), some (.inl p1), some (.inl p2), some (.inl p3), some (.inl (M 4 p1.toNatClampNeg))]) (S' := []) (M' := (mup M 0 0 0)) rfl rfl rfl rfl ?_
      refine zg_bipush (v := 100) dX5_placeOf_52 rfl ?_
      refine zg_iload (x := (M 4 p1.toNatClampNeg)) dX5_placeOf_54 rfl ?_
      refine zg_bipush (v := 40) dX5_placeOf_56 rfl ?_
      refine zg_idiv dX5_placeOf_58 (by decide) ?_
      refine zg_imul dX5_placeOf_59 ?_
      refine zg_iload (x := (M 4 p1.toNatClampNeg)) dX5_placeOf_60 rfl ?_
      refine zg_bipush (v := 40) dX5_placeOf_62 rfl ?_
      refine zg_irem dX5_placeOf_64 (by decide) ?_
      refine zg_iadd dX5_placeOf_65 ?_
      exact zg_iret dX5_placeOf_66 rfl rfl ⟨by decide, by decide⟩ rfl
    · refine zg_st (pc' := 37) (L' := [some (.inr 0), some (.inl p1), some (.inl p2), some (.inl p3), some (.inl (M 4 p1.toNatClampNeg))]) (S' := [.inr 0]) (M' := M) rfl rfl rfl rfl ?_
      refine zg_iload_n (x := p3) dX5_placeOf_37 rfl ?_
      refine zg_goto (tgt := 42) dX5_placeOf_38 rfl ?_
      refine zg_st (pc' := 42) (L' := [some (.inr 0), some (.inl p1), some (.inl p2), some (.inl p3), some (.inl (M 4 p1.toNatClampNeg))]) (S' := [.inl p3, .inr 0]) (M' := M) rfl rfl rfl rfl ?_
      refine zg_cVBM (As := [.inl p3]) (S := []) dX5_placeOf_42 zk_X5_74 (k_X5_refused q p3 M) rfl rfl ⟨by decide, by decide⟩ ⟨by decide, by decide⟩ rfl (Nat.le_of_ble_eq_true rfl) (fun q3 e_q3 => ?_)
      try dsimp only
      refine zg_st (pc' := 45) (L' := [some (.inr 0), some (.inl p1), some (.inl p2), some (.inl p3), some (.inl (M 4 p1.toNatClampNeg))]) (S' := [.inl (bI q3.1)]) (M' := q3.2) rfl rfl rfl rfl ?_
      refine zg_ifbe (tgt := 52) dX5_placeOf_45 rfl (fun c45 => ?_) (fun c45 => ?_)
      · refine zg_st (pc' := 48) (L' := [some (.inr 0), some (.inl p1), some (.inl p2), some (.inl p3), some (.inl (M 4 p1.toNatClampNeg))]) (S' := []) (M' := q3.2) rfl rfl rfl rfl ?_
        refine zg_iconst (v := 0) dX5_placeOf_48 rfl ?_
        refine zg_goto (tgt := 66) dX5_placeOf_49 rfl ?_
        refine zg_st (pc' := 66) (L' := [some (.inr 0), some (.inl p1), some (.inl p2), some (.inl p3), some (.inl (M 4 p1.toNatClampNeg))]) (S' := [.inl 0]) (M' := q3.2) rfl rfl rfl rfl ?_
        exact zg_iret dX5_placeOf_66 rfl rfl ⟨by decide, by decide⟩ rfl
      · refine zg_st (pc' := 52) (L' := [some (.inr 0), some (.inl p1), some (.inl p2), some (.inl p3), some (.inl (M 4 p1.toNatClampNeg))]) (S' := []) (M' := q3.2) rfl rfl rfl rfl ?_
        refine zg_bipush (v := 100) dX5_placeOf_52 rfl ?_
        refine zg_iload (x := (M 4 p1.toNatClampNeg)) dX5_placeOf_54 rfl ?_
        refine zg_bipush (v := 40) dX5_placeOf_56 rfl ?_
        refine zg_idiv dX5_placeOf_58 (by decide) ?_
        refine zg_imul dX5_placeOf_59 ?_
        refine zg_iload (x := (M 4 p1.toNatClampNeg)) dX5_placeOf_60 rfl ?_
        refine zg_bipush (v := 40) dX5_placeOf_62 rfl ?_
        refine zg_irem dX5_placeOf_64 (by decide) ?_
        refine zg_iadd dX5_placeOf_65 ?_
        exact zg_iret dX5_placeOf_66 rfl rfl ⟨by decide, by decide⟩ rfl
theorem dX5_place_0 : decode cX5_place 0 = .ok (.aload_n 0, 1) := by decide +kernel
theorem dX5_place_1 : decode cX5_place 1 = .ok (.iload_n 1, 1) := by decide +kernel
theorem dX5_place_2 : decode cX5_place 2 = .ok (.iload_n 2, 1) := by decide +kernel
theorem dX5_place_3 : decode cX5_place 3 = .ok (.invokestatic 70, 3) := by decide +kernel
theorem dX5_place_6 : decode cX5_place 6 = .ok (.ifCond .eq 7, 3) := by decide +kernel
theorem dX5_place_9 : decode cX5_place 9 = .ok (.iconst 0, 1) := by decide +kernel
theorem dX5_place_10 : decode cX5_place 10 = .ok (.goto 4, 3) := by decide +kernel
theorem dX5_place_13 : decode cX5_place 13 = .ok (.iconst 1, 1) := by decide +kernel
theorem dX5_place_14 : decode cX5_place 14 = .ok (.invokevirtual 74, 3) := by decide +kernel
theorem dX5_place_17 : decode cX5_place 17 = .ok (.ifCond .eq 7, 3) := by decide +kernel
theorem dX5_place_20 : decode cX5_place 20 = .ok (.iconst 0, 1) := by decide +kernel
theorem dX5_place_21 : decode cX5_place 21 = .ok (.goto 15, 3) := by decide +kernel
theorem dX5_place_24 : decode cX5_place 24 = .ok (.aload_n 0, 1) := by decide +kernel
theorem dX5_place_25 : decode cX5_place 25 = .ok (.bipush 12, 2) := by decide +kernel
theorem dX5_place_27 : decode cX5_place 27 = .ok (.iload_n 1, 1) := by decide +kernel
theorem dX5_place_28 : decode cX5_place 28 = .ok (.imul, 1) := by decide +kernel
theorem dX5_place_29 : decode cX5_place 29 = .ok (.iload_n 2, 1) := by decide +kernel
theorem dX5_place_30 : decode cX5_place 30 = .ok (.iadd, 1) := by decide +kernel
theorem dX5_place_31 : decode cX5_place 31 = .ok (.iload_n 3, 1) := by decide +kernel
theorem dX5_place_32 : decode cX5_place 32 = .ok (.iconst 2, 1) := by decide +kernel
theorem dX5_place_33 : decode cX5_place 33 = .ok (.invokevirtual 172, 3) := by decide +kernel
theorem dX5_place_36 : decode cX5_place 36 = .ok (.ireturn, 1) := by decide +kernel
def f_X5_place (p1 : Int32) (p2 : Int32) (p3 : Int32) (M : Mem) : (Int32 × Mem) :=
  if (f_X5_isBlock p1 p2) then zlet (f_X5_placeOf ((12 * p1) + p2) p3 2 (mup M 0 0 0)) (fun q1 =>
    (q1.1, q1.2))
  else (0, (mup M 0 0 1))
set_option maxRecDepth 100000 in
set_option maxHeartbeats 4000000 in
theorem k_X5_place (q : ZQ) (p1 : Int32) (p2 : Int32) (p3 : Int32) (M : Mem) : Zc (zgM q) mX5_place 0 0 [.inr 0, .inl p1, .inl p2, .inl p3] M (wIM (f_X5_place p1 p2 p3 M)) := by
  refine Zc.of (by decide) zi_X5_place.1 (Nat.le_of_ble_eq_true rfl) rfl ?_
  show Zg _ _ _ _ _ _ (zlet (f_X5_place p1 p2 p3 M) wIM) _ _ _ _
  unfold f_X5_place
  refine zg_aload_n (x := 0) dX5_place_0 rfl ?_
  refine zg_iload_n (x := p1) dX5_place_1 rfl ?_
  refine zg_iload_n (x := p2) dX5_place_2 rfl ?_
  refine zg_cS1 (As := [.inl p1, .inl p2]) (S := [.inr 0]) (v := bI ((f_X5_isBlock p1 p2))) dX5_place_3 zk_X5_70 (k_X5_isBlock q p1 p2 M) rfl ⟨by decide, by decide⟩ ⟨by decide, by decide⟩ rfl (Nat.le_of_ble_eq_true rfl) ?_
  refine zg_st (pc' := 6) (L' := [some (.inr 0), some (.inl p1), some (.inl p2), some (.inl p3)]) (S' := [.inl (bI ((f_X5_isBlock p1 p2))), .inr 0]) (M' := M) rfl rfl rfl rfl ?_
  refine zg_ifbe (tgt := 13) dX5_place_6 rfl (fun c6 => ?_) (fun c6 => ?_)
  · refine zg_st (pc' := 9) (L' := [some (.inr 0), some (.inl p1), some (.inl p2), some (.inl p3)]) (S' := [.inr 0]) (M' := M) rfl rfl rfl rfl ?_
    refine zg_iconst (v := 0) dX5_place_9 rfl ?_
    refine zg_goto (tgt := 14) dX5_place_10 rfl ?_
    refine zg_st (pc' := 14) (L' := [some (.inr 0), some (.inl p1), some (.inl p2), some (.inl p3)]) (S' := [.inl 0, .inr 0]) (M' := M) rfl rfl rfl rfl ?_
    refine zg_cV1 (As := [.inl 0]) (S := []) (v := 0) (N0 := (mup M 0 0 0)) dX5_place_14 zk_X5_74 (k_X5_refused q 0 M) rfl rfl ⟨by decide, by decide⟩ ⟨by decide, by decide⟩ rfl (Nat.le_of_ble_eq_true rfl) ?_
    refine zg_st (pc' := 17) (L' := [some (.inr 0), some (.inl p1), some (.inl p2), some (.inl p3)]) (S' := [.inl 0]) (M' := (mup M 0 0 0)) rfl rfl rfl rfl ?_
    refine zg_jt (tgt := 24) dX5_place_17 rfl (show (0 : Int32) = 0 from by decide) ?_
    refine zg_st (pc' := 24) (L' := [some (.inr 0), some (.inl p1), some (.inl p2), some (.inl p3)]) (S' := []) (M' := (mup M 0 0 0)) rfl rfl rfl rfl ?_
    refine zg_aload_n (x := 0) dX5_place_24 rfl ?_
    refine zg_bipush (v := 12) dX5_place_25 rfl ?_
    refine zg_iload_n (x := p1) dX5_place_27 rfl ?_
    refine zg_imul dX5_place_28 ?_
    refine zg_iload_n (x := p2) dX5_place_29 rfl ?_
    refine zg_iadd dX5_place_30 ?_
    refine zg_iload_n (x := p3) dX5_place_31 rfl ?_
    refine zg_iconst (v := 2) dX5_place_32 rfl ?_
    refine zg_cVIM (As := [.inl ((12 * p1) + p2), .inl p3, .inl 2]) (S := []) dX5_place_33 zk_X5_172 (k_X5_placeOf q ((12 * p1) + p2) p3 2 (mup M 0 0 0) (z_b53 c6)) rfl rfl ⟨by decide, by decide⟩ ⟨by decide, by decide⟩ rfl (Nat.le_of_ble_eq_true rfl) (fun q1 e_q1 => ?_)
    try dsimp only
    refine zg_st (pc' := 36) (L' := [some (.inr 0), some (.inl p1), some (.inl p2), some (.inl p3)]) (S' := [.inl q1.1]) (M' := q1.2) rfl rfl rfl rfl ?_
    exact zg_iret dX5_place_36 rfl rfl ⟨by decide, by decide⟩ rfl
  · refine zg_st (pc' := 13) (L' := [some (.inr 0), some (.inl p1), some (.inl p2), some (.inl p3)]) (S' := [.inr 0]) (M' := M) rfl rfl rfl rfl ?_
    refine zg_iconst (v := 1) dX5_place_13 rfl ?_
    refine zg_cV1 (As := [.inl 1]) (S := []) (v := 1) (N0 := (mup M 0 0 1)) dX5_place_14 zk_X5_74 (k_X5_refused q 1 M) rfl rfl ⟨by decide, by decide⟩ ⟨by decide, by decide⟩ rfl (Nat.le_of_ble_eq_true rfl) ?_
    refine zg_st (pc' := 17) (L' := [some (.inr 0), some (.inl p1), some (.inl p2), some (.inl p3)]) (S' := [.inl 1]) (M' := (mup M 0 0 1)) rfl rfl rfl rfl ?_
    refine zg_jf (tgt := 24) dX5_place_17 rfl (show ¬ ((1 : Int32) = 0) from by decide) ?_
    refine zg_st (pc' := 20) (L' := [some (.inr 0), some (.inl p1), some (.inl p2), some (.inl p3)]) (S' := []) (M' := (mup M 0 0 1)) rfl rfl rfl rfl ?_
    refine zg_iconst (v := 0) dX5_place_20 rfl ?_
    refine zg_goto (tgt := 36) dX5_place_21 rfl ?_
    refine zg_st (pc' := 36) (L' := [some (.inr 0), some (.inl p1), some (.inl p2), some (.inl p3)]) (S' := [.inl 0]) (M' := (mup M 0 0 1)) rfl rfl rfl rfl ?_
    exact zg_iret dX5_place_36 rfl rfl ⟨by decide, by decide⟩ rfl
theorem dX5_nodePlace_0 : decode cX5_nodePlace 0 = .ok (.aload_n 0, 1) := by decide +kernel
theorem dX5_nodePlace_1 : decode cX5_nodePlace 1 = .ok (.iload_n 1, 1) := by decide +kernel
theorem dX5_nodePlace_2 : decode cX5_nodePlace 2 = .ok (.iconst 0, 1) := by decide +kernel
theorem dX5_nodePlace_3 : decode cX5_nodePlace 3 = .ok (.iconst 3, 1) := by decide +kernel
theorem dX5_nodePlace_4 : decode cX5_nodePlace 4 = .ok (.invokestatic 66, 3) := by decide +kernel
theorem dX5_nodePlace_7 : decode cX5_nodePlace 7 = .ok (.ifCond .eq 7, 3) := by decide +kernel
theorem dX5_nodePlace_10 : decode cX5_nodePlace 10 = .ok (.iconst 0, 1) := by decide +kernel
theorem dX5_nodePlace_11 : decode cX5_nodePlace 11 = .ok (.goto 4, 3) := by decide +kernel
theorem dX5_nodePlace_14 : decode cX5_nodePlace 14 = .ok (.iconst 1, 1) := by decide +kernel
theorem dX5_nodePlace_15 : decode cX5_nodePlace 15 = .ok (.invokevirtual 74, 3) := by decide +kernel
theorem dX5_nodePlace_18 : decode cX5_nodePlace 18 = .ok (.ifCond .eq 7, 3) := by decide +kernel
theorem dX5_nodePlace_21 : decode cX5_nodePlace 21 = .ok (.iconst 0, 1) := by decide +kernel
theorem dX5_nodePlace_22 : decode cX5_nodePlace 22 = .ok (.goto 13, 3) := by decide +kernel
theorem dX5_nodePlace_25 : decode cX5_nodePlace 25 = .ok (.aload_n 0, 1) := by decide +kernel
theorem dX5_nodePlace_26 : decode cX5_nodePlace 26 = .ok (.bipush 48, 2) := by decide +kernel
theorem dX5_nodePlace_28 : decode cX5_nodePlace 28 = .ok (.iload_n 1, 1) := by decide +kernel
theorem dX5_nodePlace_29 : decode cX5_nodePlace 29 = .ok (.iadd, 1) := by decide +kernel
theorem dX5_nodePlace_30 : decode cX5_nodePlace 30 = .ok (.iload_n 2, 1) := by decide +kernel
theorem dX5_nodePlace_31 : decode cX5_nodePlace 31 = .ok (.iconst 2, 1) := by decide +kernel
theorem dX5_nodePlace_32 : decode cX5_nodePlace 32 = .ok (.invokevirtual 172, 3) := by decide +kernel
theorem dX5_nodePlace_35 : decode cX5_nodePlace 35 = .ok (.ireturn, 1) := by decide +kernel
def f_X5_nodePlace (p1 : Int32) (p2 : Int32) (M : Mem) : (Int32 × Mem) :=
  if (f_X5_in p1 0 3) then zlet (f_X5_placeOf (48 + p1) p2 2 (mup M 0 0 0)) (fun q1 =>
    (q1.1, q1.2))
  else (0, (mup M 0 0 1))
set_option maxRecDepth 100000 in
set_option maxHeartbeats 4000000 in
theorem k_X5_nodePlace (q : ZQ) (p1 : Int32) (p2 : Int32) (M : Mem) : Zc (zgM q) mX5_nodePlace 0 0 [.inr 0, .inl p1, .inl p2] M (wIM (f_X5_nodePlace p1 p2 M)) := by
  refine Zc.of (by decide) zi_X5_nodePlace.1 (Nat.le_of_ble_eq_true rfl) rfl ?_
  show Zg _ _ _ _ _ _ (zlet (f_X5_nodePlace p1 p2 M) wIM) _ _ _ _
  unfold f_X5_nodePlace
  refine zg_aload_n (x := 0) dX5_nodePlace_0 rfl ?_
  refine zg_iload_n (x := p1) dX5_nodePlace_1 rfl ?_
  refine zg_iconst (v := 0) dX5_nodePlace_2 rfl ?_
  refine zg_iconst (v := 3) dX5_nodePlace_3 rfl ?_
  refine zg_cS1 (As := [.inl p1, .inl 0, .inl 3]) (S := [.inr 0]) (v := bI ((f_X5_in p1 0 3))) dX5_nodePlace_4 zk_X5_66 (k_X5_in q p1 0 3 M) rfl ⟨by decide, by decide⟩ ⟨by decide, by decide⟩ rfl (Nat.le_of_ble_eq_true rfl) ?_
  refine zg_st (pc' := 7) (L' := [some (.inr 0), some (.inl p1), some (.inl p2)]) (S' := [.inl (bI ((f_X5_in p1 0 3))), .inr 0]) (M' := M) rfl rfl rfl rfl ?_
  refine zg_ifbe (tgt := 14) dX5_nodePlace_7 rfl (fun c7 => ?_) (fun c7 => ?_)
  · refine zg_st (pc' := 10) (L' := [some (.inr 0), some (.inl p1), some (.inl p2)]) (S' := [.inr 0]) (M' := M) rfl rfl rfl rfl ?_
    refine zg_iconst (v := 0) dX5_nodePlace_10 rfl ?_
    refine zg_goto (tgt := 15) dX5_nodePlace_11 rfl ?_
    refine zg_st (pc' := 15) (L' := [some (.inr 0), some (.inl p1), some (.inl p2)]) (S' := [.inl 0, .inr 0]) (M' := M) rfl rfl rfl rfl ?_
    refine zg_cV1 (As := [.inl 0]) (S := []) (v := 0) (N0 := (mup M 0 0 0)) dX5_nodePlace_15 zk_X5_74 (k_X5_refused q 0 M) rfl rfl ⟨by decide, by decide⟩ ⟨by decide, by decide⟩ rfl (Nat.le_of_ble_eq_true rfl) ?_
    refine zg_st (pc' := 18) (L' := [some (.inr 0), some (.inl p1), some (.inl p2)]) (S' := [.inl 0]) (M' := (mup M 0 0 0)) rfl rfl rfl rfl ?_
    refine zg_jt (tgt := 25) dX5_nodePlace_18 rfl (show (0 : Int32) = 0 from by decide) ?_
    refine zg_st (pc' := 25) (L' := [some (.inr 0), some (.inl p1), some (.inl p2)]) (S' := []) (M' := (mup M 0 0 0)) rfl rfl rfl rfl ?_
    refine zg_aload_n (x := 0) dX5_nodePlace_25 rfl ?_
    refine zg_bipush (v := 48) dX5_nodePlace_26 rfl ?_
    refine zg_iload_n (x := p1) dX5_nodePlace_28 rfl ?_
    refine zg_iadd dX5_nodePlace_29 ?_
    refine zg_iload_n (x := p2) dX5_nodePlace_30 rfl ?_
    refine zg_iconst (v := 2) dX5_nodePlace_31 rfl ?_
    refine zg_cVIM (As := [.inl (48 + p1), .inl p2, .inl 2]) (S := []) dX5_nodePlace_32 zk_X5_172 (k_X5_placeOf q (48 + p1) p2 2 (mup M 0 0 0) (z_f53 c7)) rfl rfl ⟨by decide, by decide⟩ ⟨by decide, by decide⟩ rfl (Nat.le_of_ble_eq_true rfl) (fun q1 e_q1 => ?_)
    try dsimp only
    refine zg_st (pc' := 35) (L' := [some (.inr 0), some (.inl p1), some (.inl p2)]) (S' := [.inl q1.1]) (M' := q1.2) rfl rfl rfl rfl ?_
    exact zg_iret dX5_nodePlace_35 rfl rfl ⟨by decide, by decide⟩ rfl
  · refine zg_st (pc' := 14) (L' := [some (.inr 0), some (.inl p1), some (.inl p2)]) (S' := [.inr 0]) (M' := M) rfl rfl rfl rfl ?_
    refine zg_iconst (v := 1) dX5_nodePlace_14 rfl ?_
    refine zg_cV1 (As := [.inl 1]) (S := []) (v := 1) (N0 := (mup M 0 0 1)) dX5_nodePlace_15 zk_X5_74 (k_X5_refused q 1 M) rfl rfl ⟨by decide, by decide⟩ ⟨by decide, by decide⟩ rfl (Nat.le_of_ble_eq_true rfl) ?_
    refine zg_st (pc' := 18) (L' := [some (.inr 0), some (.inl p1), some (.inl p2)]) (S' := [.inl 1]) (M' := (mup M 0 0 1)) rfl rfl rfl rfl ?_
    refine zg_jf (tgt := 25) dX5_nodePlace_18 rfl (show ¬ ((1 : Int32) = 0) from by decide) ?_
    refine zg_st (pc' := 21) (L' := [some (.inr 0), some (.inl p1), some (.inl p2)]) (S' := []) (M' := (mup M 0 0 1)) rfl rfl rfl rfl ?_
    refine zg_iconst (v := 0) dX5_nodePlace_21 rfl ?_
    refine zg_goto (tgt := 35) dX5_nodePlace_22 rfl ?_
    refine zg_st (pc' := 35) (L' := [some (.inr 0), some (.inl p1), some (.inl p2)]) (S' := [.inl 0]) (M' := (mup M 0 0 1)) rfl rfl rfl rfl ?_
    exact zg_iret dX5_nodePlace_35 rfl rfl ⟨by decide, by decide⟩ rfl
theorem dX5_rootPlace_0 : decode cX5_rootPlace 0 = .ok (.aload_n 0, 1) := by decide +kernel
theorem dX5_rootPlace_1 : decode cX5_rootPlace 1 = .ok (.bipush 52, 2) := by decide +kernel
theorem dX5_rootPlace_3 : decode cX5_rootPlace 3 = .ok (.iload_n 1, 1) := by decide +kernel
theorem dX5_rootPlace_4 : decode cX5_rootPlace 4 = .ok (.iconst 1, 1) := by decide +kernel
theorem dX5_rootPlace_5 : decode cX5_rootPlace 5 = .ok (.invokevirtual 172, 3) := by decide +kernel
theorem dX5_rootPlace_8 : decode cX5_rootPlace 8 = .ok (.ireturn, 1) := by decide +kernel
def f_X5_rootPlace (p1 : Int32) (M : Mem) : (Int32 × Mem) :=
  zlet (f_X5_placeOf 52 p1 1 M) (fun q1 =>
  (q1.1, q1.2))
set_option maxRecDepth 100000 in
set_option maxHeartbeats 4000000 in
theorem k_X5_rootPlace (q : ZQ) (p1 : Int32) (M : Mem) : Zc (zgM q) mX5_rootPlace 0 0 [.inr 0, .inl p1] M (wIM (f_X5_rootPlace p1 M)) := by
  refine Zc.of (by decide) zi_X5_rootPlace.1 (Nat.le_of_ble_eq_true rfl) rfl ?_
  show Zg _ _ _ _ _ _ (zlet (f_X5_rootPlace p1 M) wIM) _ _ _ _
  unfold f_X5_rootPlace
  refine zg_aload_n (x := 0) dX5_rootPlace_0 rfl ?_
  refine zg_bipush (v := 52) dX5_rootPlace_1 rfl ?_
  refine zg_iload_n (x := p1) dX5_rootPlace_3 rfl ?_
  refine zg_iconst (v := 1) dX5_rootPlace_4 rfl ?_
  refine zg_cVIM (As := [.inl 52, .inl p1, .inl 1]) (S := []) dX5_rootPlace_5 zk_X5_172 (k_X5_placeOf q 52 p1 1 M z_52) rfl rfl ⟨by decide, by decide⟩ ⟨by decide, by decide⟩ rfl (Nat.le_of_ble_eq_true rfl) (fun q1 e_q1 => ?_)
  try dsimp only
  refine zg_st (pc' := 8) (L' := [some (.inr 0), some (.inl p1)]) (S' := [.inl q1.1]) (M' := q1.2) rfl rfl rfl rfl ?_
  exact zg_iret dX5_rootPlace_8 rfl rfl ⟨by decide, by decide⟩ rfl
theorem dX5_birth_0 : decode cX5_birth 0 = .ok (.aload_n 0, 1) := by decide +kernel
theorem dX5_birth_1 : decode cX5_birth 1 = .ok (.iload_n 1, 1) := by decide +kernel
theorem dX5_birth_2 : decode cX5_birth 2 = .ok (.iload_n 2, 1) := by decide +kernel
theorem dX5_birth_3 : decode cX5_birth 3 = .ok (.invokestatic 70, 3) := by decide +kernel
theorem dX5_birth_6 : decode cX5_birth 6 = .ok (.ifCond .eq 7, 3) := by decide +kernel
theorem dX5_birth_9 : decode cX5_birth 9 = .ok (.iconst 0, 1) := by decide +kernel
theorem dX5_birth_10 : decode cX5_birth 10 = .ok (.goto 4, 3) := by decide +kernel
theorem dX5_birth_13 : decode cX5_birth 13 = .ok (.iconst 1, 1) := by decide +kernel
theorem dX5_birth_14 : decode cX5_birth 14 = .ok (.invokevirtual 74, 3) := by decide +kernel
theorem dX5_birth_17 : decode cX5_birth 17 = .ok (.ifCond .eq 7, 3) := by decide +kernel
theorem dX5_birth_20 : decode cX5_birth 20 = .ok (.iconst 0, 1) := by decide +kernel
theorem dX5_birth_21 : decode cX5_birth 21 = .ok (.goto 14, 3) := by decide +kernel
theorem dX5_birth_24 : decode cX5_birth 24 = .ok (.aload_n 0, 1) := by decide +kernel
theorem dX5_birth_25 : decode cX5_birth 25 = .ok (.getfield 29, 3) := by decide +kernel
theorem dX5_birth_28 : decode cX5_birth 28 = .ok (.bipush 12, 2) := by decide +kernel
theorem dX5_birth_30 : decode cX5_birth 30 = .ok (.iload_n 1, 1) := by decide +kernel
theorem dX5_birth_31 : decode cX5_birth 31 = .ok (.imul, 1) := by decide +kernel
theorem dX5_birth_32 : decode cX5_birth 32 = .ok (.iload_n 2, 1) := by decide +kernel
theorem dX5_birth_33 : decode cX5_birth 33 = .ok (.iadd, 1) := by decide +kernel
theorem dX5_birth_34 : decode cX5_birth 34 = .ok (.iaload, 1) := by decide +kernel
theorem dX5_birth_35 : decode cX5_birth 35 = .ok (.ireturn, 1) := by decide +kernel
def f_X5_birth (p1 : Int32) (p2 : Int32) (M : Mem) : (Int32 × Mem) :=
  if (f_X5_isBlock p1 p2) then (((mup M 0 0 0) 6 ((12 * p1) + p2).toNatClampNeg), (mup M 0 0 0))
  else (0, (mup M 0 0 1))
set_option maxRecDepth 100000 in
set_option maxHeartbeats 4000000 in
theorem k_X5_birth (q : ZQ) (p1 : Int32) (p2 : Int32) (M : Mem) : Zc (zgM q) mX5_birth 0 0 [.inr 0, .inl p1, .inl p2] M (wIM (f_X5_birth p1 p2 M)) := by
  refine Zc.of (by decide) zi_X5_birth.1 (Nat.le_of_ble_eq_true rfl) rfl ?_
  show Zg _ _ _ _ _ _ (zlet (f_X5_birth p1 p2 M) wIM) _ _ _ _
  unfold f_X5_birth
  refine zg_aload_n (x := 0) dX5_birth_0 rfl ?_
  refine zg_iload_n (x := p1) dX5_birth_1 rfl ?_
  refine zg_iload_n (x := p2) dX5_birth_2 rfl ?_
  refine zg_cS1 (As := [.inl p1, .inl p2]) (S := [.inr 0]) (v := bI ((f_X5_isBlock p1 p2))) dX5_birth_3 zk_X5_70 (k_X5_isBlock q p1 p2 M) rfl ⟨by decide, by decide⟩ ⟨by decide, by decide⟩ rfl (Nat.le_of_ble_eq_true rfl) ?_
  refine zg_st (pc' := 6) (L' := [some (.inr 0), some (.inl p1), some (.inl p2)]) (S' := [.inl (bI ((f_X5_isBlock p1 p2))), .inr 0]) (M' := M) rfl rfl rfl rfl ?_
  refine zg_ifbe (tgt := 13) dX5_birth_6 rfl (fun c6 => ?_) (fun c6 => ?_)
  · refine zg_st (pc' := 9) (L' := [some (.inr 0), some (.inl p1), some (.inl p2)]) (S' := [.inr 0]) (M' := M) rfl rfl rfl rfl ?_
    refine zg_iconst (v := 0) dX5_birth_9 rfl ?_
    refine zg_goto (tgt := 14) dX5_birth_10 rfl ?_
    refine zg_st (pc' := 14) (L' := [some (.inr 0), some (.inl p1), some (.inl p2)]) (S' := [.inl 0, .inr 0]) (M' := M) rfl rfl rfl rfl ?_
    refine zg_cV1 (As := [.inl 0]) (S := []) (v := 0) (N0 := (mup M 0 0 0)) dX5_birth_14 zk_X5_74 (k_X5_refused q 0 M) rfl rfl ⟨by decide, by decide⟩ ⟨by decide, by decide⟩ rfl (Nat.le_of_ble_eq_true rfl) ?_
    refine zg_st (pc' := 17) (L' := [some (.inr 0), some (.inl p1), some (.inl p2)]) (S' := [.inl 0]) (M' := (mup M 0 0 0)) rfl rfl rfl rfl ?_
    refine zg_jt (tgt := 24) dX5_birth_17 rfl (show (0 : Int32) = 0 from by decide) ?_
    refine zg_st (pc' := 24) (L' := [some (.inr 0), some (.inl p1), some (.inl p2)]) (S' := []) (M' := (mup M 0 0 0)) rfl rfl rfl rfl ?_
    refine zg_aload_n (x := 0) dX5_birth_24 rfl ?_
    refine zg_getf (v := .inr 6) dX5_birth_25 zf_X5_29 rfl rfl rfl ?_
    refine zg_bipush (v := 12) dX5_birth_28 rfl ?_
    refine zg_iload_n (x := p1) dX5_birth_30 rfl ?_
    refine zg_imul dX5_birth_31 ?_
    refine zg_iload_n (x := p2) dX5_birth_32 rfl ?_
    refine zg_iadd dX5_birth_33 ?_
    refine zg_iald dX5_birth_34 rfl (z_b53 c6) ?_
    exact zg_iret dX5_birth_35 rfl rfl ⟨by decide, by decide⟩ rfl
  · refine zg_st (pc' := 13) (L' := [some (.inr 0), some (.inl p1), some (.inl p2)]) (S' := [.inr 0]) (M' := M) rfl rfl rfl rfl ?_
    refine zg_iconst (v := 1) dX5_birth_13 rfl ?_
    refine zg_cV1 (As := [.inl 1]) (S := []) (v := 1) (N0 := (mup M 0 0 1)) dX5_birth_14 zk_X5_74 (k_X5_refused q 1 M) rfl rfl ⟨by decide, by decide⟩ ⟨by decide, by decide⟩ rfl (Nat.le_of_ble_eq_true rfl) ?_
    refine zg_st (pc' := 17) (L' := [some (.inr 0), some (.inl p1), some (.inl p2)]) (S' := [.inl 1]) (M' := (mup M 0 0 1)) rfl rfl rfl rfl ?_
    refine zg_jf (tgt := 24) dX5_birth_17 rfl (show ¬ ((1 : Int32) = 0) from by decide) ?_
    refine zg_st (pc' := 20) (L' := [some (.inr 0), some (.inl p1), some (.inl p2)]) (S' := []) (M' := (mup M 0 0 1)) rfl rfl rfl rfl ?_
    refine zg_iconst (v := 0) dX5_birth_20 rfl ?_
    refine zg_goto (tgt := 35) dX5_birth_21 rfl ?_
    refine zg_st (pc' := 35) (L' := [some (.inr 0), some (.inl p1), some (.inl p2)]) (S' := [.inl 0]) (M' := (mup M 0 0 1)) rfl rfl rfl rfl ?_
    exact zg_iret dX5_birth_35 rfl rfl ⟨by decide, by decide⟩ rfl
theorem dX5_checksum_0 : decode cX5_checksum 0 = .ok (.aload_n 0, 1) := by decide +kernel
theorem dX5_checksum_1 : decode cX5_checksum 1 = .ok (.iload_n 1, 1) := by decide +kernel
theorem dX5_checksum_2 : decode cX5_checksum 2 = .ok (.iconst 0, 1) := by decide +kernel
theorem dX5_checksum_3 : decode cX5_checksum 3 = .ok (.iconst 3, 1) := by decide +kernel
theorem dX5_checksum_4 : decode cX5_checksum 4 = .ok (.invokestatic 66, 3) := by decide +kernel
theorem dX5_checksum_7 : decode cX5_checksum 7 = .ok (.ifCond .eq 7, 3) := by decide +kernel
theorem dX5_checksum_10 : decode cX5_checksum 10 = .ok (.iconst 0, 1) := by decide +kernel
theorem dX5_checksum_11 : decode cX5_checksum 11 = .ok (.goto 4, 3) := by decide +kernel
theorem dX5_checksum_14 : decode cX5_checksum 14 = .ok (.iconst 1, 1) := by decide +kernel
theorem dX5_checksum_15 : decode cX5_checksum 15 = .ok (.invokevirtual 74, 3) := by decide +kernel
theorem dX5_checksum_18 : decode cX5_checksum 18 = .ok (.ifCond .eq 7, 3) := by decide +kernel
theorem dX5_checksum_21 : decode cX5_checksum 21 = .ok (.iconst 0, 1) := by decide +kernel
theorem dX5_checksum_22 : decode cX5_checksum 22 = .ok (.goto 12, 3) := by decide +kernel
theorem dX5_checksum_25 : decode cX5_checksum 25 = .ok (.aload_n 0, 1) := by decide +kernel
theorem dX5_checksum_26 : decode cX5_checksum 26 = .ok (.getfield 32, 3) := by decide +kernel
theorem dX5_checksum_29 : decode cX5_checksum 29 = .ok (.bipush 48, 2) := by decide +kernel
theorem dX5_checksum_31 : decode cX5_checksum 31 = .ok (.iload_n 1, 1) := by decide +kernel
theorem dX5_checksum_32 : decode cX5_checksum 32 = .ok (.iadd, 1) := by decide +kernel
theorem dX5_checksum_33 : decode cX5_checksum 33 = .ok (.iaload, 1) := by decide +kernel
theorem dX5_checksum_34 : decode cX5_checksum 34 = .ok (.ireturn, 1) := by decide +kernel
def f_X5_checksum (p1 : Int32) (M : Mem) : (Int32 × Mem) :=
  if (f_X5_in p1 0 3) then (((mup M 0 0 0) 7 (48 + p1).toNatClampNeg), (mup M 0 0 0))
  else (0, (mup M 0 0 1))
set_option maxRecDepth 100000 in
set_option maxHeartbeats 4000000 in
theorem k_X5_checksum (q : ZQ) (p1 : Int32) (M : Mem) : Zc (zgM q) mX5_checksum 0 0 [.inr 0, .inl p1] M (wIM (f_X5_checksum p1 M)) := by
  refine Zc.of (by decide) zi_X5_checksum.1 (Nat.le_of_ble_eq_true rfl) rfl ?_
  show Zg _ _ _ _ _ _ (zlet (f_X5_checksum p1 M) wIM) _ _ _ _
  unfold f_X5_checksum
  refine zg_aload_n (x := 0) dX5_checksum_0 rfl ?_
  refine zg_iload_n (x := p1) dX5_checksum_1 rfl ?_
  refine zg_iconst (v := 0) dX5_checksum_2 rfl ?_
  refine zg_iconst (v := 3) dX5_checksum_3 rfl ?_
  refine zg_cS1 (As := [.inl p1, .inl 0, .inl 3]) (S := [.inr 0]) (v := bI ((f_X5_in p1 0 3))) dX5_checksum_4 zk_X5_66 (k_X5_in q p1 0 3 M) rfl ⟨by decide, by decide⟩ ⟨by decide, by decide⟩ rfl (Nat.le_of_ble_eq_true rfl) ?_
  refine zg_st (pc' := 7) (L' := [some (.inr 0), some (.inl p1)]) (S' := [.inl (bI ((f_X5_in p1 0 3))), .inr 0]) (M' := M) rfl rfl rfl rfl ?_
  refine zg_ifbe (tgt := 14) dX5_checksum_7 rfl (fun c7 => ?_) (fun c7 => ?_)
  · refine zg_st (pc' := 10) (L' := [some (.inr 0), some (.inl p1)]) (S' := [.inr 0]) (M' := M) rfl rfl rfl rfl ?_
    refine zg_iconst (v := 0) dX5_checksum_10 rfl ?_
    refine zg_goto (tgt := 15) dX5_checksum_11 rfl ?_
    refine zg_st (pc' := 15) (L' := [some (.inr 0), some (.inl p1)]) (S' := [.inl 0, .inr 0]) (M' := M) rfl rfl rfl rfl ?_
    refine zg_cV1 (As := [.inl 0]) (S := []) (v := 0) (N0 := (mup M 0 0 0)) dX5_checksum_15 zk_X5_74 (k_X5_refused q 0 M) rfl rfl ⟨by decide, by decide⟩ ⟨by decide, by decide⟩ rfl (Nat.le_of_ble_eq_true rfl) ?_
    refine zg_st (pc' := 18) (L' := [some (.inr 0), some (.inl p1)]) (S' := [.inl 0]) (M' := (mup M 0 0 0)) rfl rfl rfl rfl ?_
    refine zg_jt (tgt := 25) dX5_checksum_18 rfl (show (0 : Int32) = 0 from by decide) ?_
    refine zg_st (pc' := 25) (L' := [some (.inr 0), some (.inl p1)]) (S' := []) (M' := (mup M 0 0 0)) rfl rfl rfl rfl ?_
    refine zg_aload_n (x := 0) dX5_checksum_25 rfl ?_
    refine zg_getf (v := .inr 7) dX5_checksum_26 zf_X5_32 rfl rfl rfl ?_
    refine zg_bipush (v := 48) dX5_checksum_29 rfl ?_
    refine zg_iload_n (x := p1) dX5_checksum_31 rfl ?_
    refine zg_iadd dX5_checksum_32 ?_
    refine zg_iald dX5_checksum_33 rfl (z_f53 c7) ?_
    exact zg_iret dX5_checksum_34 rfl rfl ⟨by decide, by decide⟩ rfl
  · refine zg_st (pc' := 14) (L' := [some (.inr 0), some (.inl p1)]) (S' := [.inr 0]) (M' := M) rfl rfl rfl rfl ?_
    refine zg_iconst (v := 1) dX5_checksum_14 rfl ?_
    refine zg_cV1 (As := [.inl 1]) (S := []) (v := 1) (N0 := (mup M 0 0 1)) dX5_checksum_15 zk_X5_74 (k_X5_refused q 1 M) rfl rfl ⟨by decide, by decide⟩ ⟨by decide, by decide⟩ rfl (Nat.le_of_ble_eq_true rfl) ?_
    refine zg_st (pc' := 18) (L' := [some (.inr 0), some (.inl p1)]) (S' := [.inl 1]) (M' := (mup M 0 0 1)) rfl rfl rfl rfl ?_
    refine zg_jf (tgt := 25) dX5_checksum_18 rfl (show ¬ ((1 : Int32) = 0) from by decide) ?_
    refine zg_st (pc' := 21) (L' := [some (.inr 0), some (.inl p1)]) (S' := []) (M' := (mup M 0 0 1)) rfl rfl rfl rfl ?_
    refine zg_iconst (v := 0) dX5_checksum_21 rfl ?_
    refine zg_goto (tgt := 34) dX5_checksum_22 rfl ?_
    refine zg_st (pc' := 34) (L' := [some (.inr 0), some (.inl p1)]) (S' := [.inl 0]) (M' := (mup M 0 0 1)) rfl rfl rfl rfl ?_
    exact zg_iret dX5_checksum_34 rfl rfl ⟨by decide, by decide⟩ rfl
theorem dX5_rootChecksum_0 : decode cX5_rootChecksum 0 = .ok (.aload_n 0, 1) := by decide +kernel
theorem dX5_rootChecksum_1 : decode cX5_rootChecksum 1 = .ok (.aload_n 0, 1) := by decide +kernel
theorem dX5_rootChecksum_2 : decode cX5_rootChecksum 2 = .ok (.getfield 32, 3) := by decide +kernel
theorem dX5_rootChecksum_5 : decode cX5_rootChecksum 5 = .ok (.bipush 52, 2) := by decide +kernel
theorem dX5_rootChecksum_7 : decode cX5_rootChecksum 7 = .ok (.iaload, 1) := by decide +kernel
theorem dX5_rootChecksum_8 : decode cX5_rootChecksum 8 = .ok (.invokevirtual 149, 3) := by decide +kernel
theorem dX5_rootChecksum_11 : decode cX5_rootChecksum 11 = .ok (.ireturn, 1) := by decide +kernel
def f_X5_rootChecksum (M : Mem) : (Int32 × Mem) :=
  ((M 7 (52 : Int32).toNatClampNeg), (mup M 0 0 0))
set_option maxRecDepth 100000 in
set_option maxHeartbeats 4000000 in
theorem k_X5_rootChecksum (q : ZQ) (M : Mem) : Zc (zgM q) mX5_rootChecksum 0 0 [.inr 0] M (wIM (f_X5_rootChecksum M)) := by
  refine Zc.of (by decide) zi_X5_rootChecksum.1 (Nat.le_of_ble_eq_true rfl) rfl ?_
  show Zg _ _ _ _ _ _ (zlet (f_X5_rootChecksum M) wIM) _ _ _ _
  unfold f_X5_rootChecksum
  refine zg_aload_n (x := 0) dX5_rootChecksum_0 rfl ?_
  refine zg_aload_n (x := 0) dX5_rootChecksum_1 rfl ?_
  refine zg_getf (v := .inr 7) dX5_rootChecksum_2 zf_X5_32 rfl rfl rfl ?_
  refine zg_bipush (v := 52) dX5_rootChecksum_5 rfl ?_
  refine zg_iald dX5_rootChecksum_7 rfl z_52 ?_
  refine zg_cV1 (As := [.inl (M 7 (52 : Int32).toNatClampNeg)]) (S := []) (v := (M 7 (52 : Int32).toNatClampNeg)) (N0 := (mup M 0 0 0)) dX5_rootChecksum_8 zk_X5_149 (k_X5_fine q (M 7 (52 : Int32).toNatClampNeg) M) rfl rfl ⟨by decide, by decide⟩ ⟨by decide, by decide⟩ rfl (Nat.le_of_ble_eq_true rfl) ?_
  refine zg_st (pc' := 11) (L' := [some (.inr 0)]) (S' := [.inl (M 7 (52 : Int32).toNatClampNeg)]) (M' := (mup M 0 0 0)) rfl rfl rfl rfl ?_
  exact zg_iret dX5_rootChecksum_11 rfl rfl ⟨by decide, by decide⟩ rfl
