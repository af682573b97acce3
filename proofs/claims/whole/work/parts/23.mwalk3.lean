theorem dX5_tryOut_0 : decode cX5_tryOut 0 = .ok (.aload_n 0, 1) := by decide +kernel
theorem dX5_tryOut_1 : decode cX5_tryOut 1 = .ok (.getfield 60, 3) := by decide +kernel
theorem dX5_tryOut_4 : decode cX5_tryOut 4 = .ok (.iload_n 1, 1) := by decide +kernel
theorem dX5_tryOut_5 : decode cX5_tryOut 5 = .ok (.iconst 1, 1) := by decide +kernel
theorem dX5_tryOut_6 : decode cX5_tryOut 6 = .ok (.bastore, 1) := by decide +kernel
theorem dX5_tryOut_7 : decode cX5_tryOut 7 = .ok (.aload_n 0, 1) := by decide +kernel
theorem dX5_tryOut_8 : decode cX5_tryOut 8 = .ok (.getfield 54, 3) := by decide +kernel
theorem dX5_tryOut_11 : decode cX5_tryOut 11 = .ok (.iload_n 1, 1) := by decide +kernel
theorem dX5_tryOut_12 : decode cX5_tryOut 12 = .ok (.aload_n 0, 1) := by decide +kernel
theorem dX5_tryOut_13 : decode cX5_tryOut 13 = .ok (.iconst (-1), 1) := by decide +kernel
theorem dX5_tryOut_14 : decode cX5_tryOut 14 = .ok (.invokevirtual 115, 3) := by decide +kernel
theorem dX5_tryOut_17 : decode cX5_tryOut 17 = .ok (.iastore, 1) := by decide +kernel
theorem dX5_tryOut_18 : decode cX5_tryOut 18 = .ok (.aload_n 0, 1) := by decide +kernel
theorem dX5_tryOut_19 : decode cX5_tryOut 19 = .ok (.getfield 54, 3) := by decide +kernel
theorem dX5_tryOut_22 : decode cX5_tryOut 22 = .ok (.iload_n 1, 1) := by decide +kernel
theorem dX5_tryOut_23 : decode cX5_tryOut 23 = .ok (.iaload, 1) := by decide +kernel
theorem dX5_tryOut_24 : decode cX5_tryOut 24 = .ok (.iconst (-1), 1) := by decide +kernel
theorem dX5_tryOut_25 : decode cX5_tryOut 25 = .ok (.if_icmp .eq 7, 3) := by decide +kernel
theorem dX5_tryOut_28 : decode cX5_tryOut 28 = .ok (.iconst 1, 1) := by decide +kernel
theorem dX5_tryOut_29 : decode cX5_tryOut 29 = .ok (.goto 4, 3) := by decide +kernel
theorem dX5_tryOut_32 : decode cX5_tryOut 32 = .ok (.iconst 0, 1) := by decide +kernel
theorem dX5_tryOut_33 : decode cX5_tryOut 33 = .ok (.istore_n 3, 1) := by decide +kernel
theorem dX5_tryOut_34 : decode cX5_tryOut 34 = .ok (.iload_n 3, 1) := by decide +kernel
theorem dX5_tryOut_35 : decode cX5_tryOut 35 = .ok (.ifCond .eq 42, 3) := by decide +kernel
theorem dX5_tryOut_38 : decode cX5_tryOut 38 = .ok (.iload_n 2, 1) := by decide +kernel
theorem dX5_tryOut_39 : decode cX5_tryOut 39 = .ok (.ifCond .eq 38, 3) := by decide +kernel
theorem dX5_tryOut_42 : decode cX5_tryOut 42 = .ok (.aload_n 0, 1) := by decide +kernel
theorem dX5_tryOut_43 : decode cX5_tryOut 43 = .ok (.getfield 57, 3) := by decide +kernel
theorem dX5_tryOut_46 : decode cX5_tryOut 46 = .ok (.iload_n 1, 1) := by decide +kernel
theorem dX5_tryOut_47 : decode cX5_tryOut 47 = .ok (.aload_n 0, 1) := by decide +kernel
theorem dX5_tryOut_48 : decode cX5_tryOut 48 = .ok (.aload_n 0, 1) := by decide +kernel
theorem dX5_tryOut_49 : decode cX5_tryOut 49 = .ok (.getfield 54, 3) := by decide +kernel
theorem dX5_tryOut_52 : decode cX5_tryOut 52 = .ok (.iload_n 1, 1) := by decide +kernel
theorem dX5_tryOut_53 : decode cX5_tryOut 53 = .ok (.iaload, 1) := by decide +kernel
theorem dX5_tryOut_54 : decode cX5_tryOut 54 = .ok (.bipush 40, 2) := by decide +kernel
theorem dX5_tryOut_56 : decode cX5_tryOut 56 = .ok (.idiv, 1) := by decide +kernel
theorem dX5_tryOut_57 : decode cX5_tryOut 57 = .ok (.invokevirtual 115, 3) := by decide +kernel
theorem dX5_tryOut_60 : decode cX5_tryOut 60 = .ok (.iastore, 1) := by decide +kernel
theorem dX5_tryOut_61 : decode cX5_tryOut 61 = .ok (.aload_n 0, 1) := by decide +kernel
theorem dX5_tryOut_62 : decode cX5_tryOut 62 = .ok (.getfield 57, 3) := by decide +kernel
theorem dX5_tryOut_65 : decode cX5_tryOut 65 = .ok (.iload_n 1, 1) := by decide +kernel
theorem dX5_tryOut_66 : decode cX5_tryOut 66 = .ok (.iaload, 1) := by decide +kernel
theorem dX5_tryOut_67 : decode cX5_tryOut 67 = .ok (.iconst (-1), 1) := by decide +kernel
theorem dX5_tryOut_68 : decode cX5_tryOut 68 = .ok (.if_icmp .eq 7, 3) := by decide +kernel
theorem dX5_tryOut_71 : decode cX5_tryOut 71 = .ok (.iconst 1, 1) := by decide +kernel
theorem dX5_tryOut_72 : decode cX5_tryOut 72 = .ok (.goto 4, 3) := by decide +kernel
theorem dX5_tryOut_75 : decode cX5_tryOut 75 = .ok (.iconst 0, 1) := by decide +kernel
theorem dX5_tryOut_76 : decode cX5_tryOut 76 = .ok (.istore_n 3, 1) := by decide +kernel
theorem dX5_tryOut_77 : decode cX5_tryOut 77 = .ok (.iload_n 3, 1) := by decide +kernel
theorem dX5_tryOut_78 : decode cX5_tryOut 78 = .ok (.ireturn, 1) := by decide +kernel
def f_X5_tryOut (p1 : Int32) (p2 : Bool) (M : Mem) : (Bool × Mem) :=
  zlet (f_X5_take (-1) (mup M 16 p1.toNatClampNeg 1)) (fun q1 =>
  zlet (if ((mup q1.2 14 p1.toNatClampNeg q1.1) 14 p1.toNatClampNeg) = (-1) then false
      else true) (fun (j2 : Bool) =>
    if j2 then if p2 then zlet (f_X5_take (((mup q1.2 14 p1.toNatClampNeg q1.1) 14 p1.toNatClampNeg) / 40) (mup q1.2 14 p1.toNatClampNeg q1.1)) (fun q4 =>
          if ((mup q4.2 15 p1.toNatClampNeg q4.1) 15 p1.toNatClampNeg) = (-1) then (false, (mup q4.2 15 p1.toNatClampNeg q4.1))
            else (true, (mup q4.2 15 p1.toNatClampNeg q4.1)))
        else (j2, (mup q1.2 14 p1.toNatClampNeg q1.1))
      else (j2, (mup q1.2 14 p1.toNatClampNeg q1.1))))
set_option maxRecDepth 100000 in
set_option maxHeartbeats 4000000 in
theorem k_X5_tryOut (q : ZQ) (p1 : Int32) (p2 : Bool) (M : Mem) (hp : vp_in p1 53) : Zc (zgM q) mX5_tryOut 0 0 [.inr 0, .inl p1, .inl (bI p2)] M (wBM (f_X5_tryOut p1 p2 M)) := by
  refine Zc.of (by decide) zi_X5_tryOut.1 (Nat.le_of_ble_eq_true rfl) rfl ?_
  show Zg _ _ _ _ _ _ (zlet (f_X5_tryOut p1 p2 M) wBM) _ _ _ _
  unfold f_X5_tryOut
  refine zg_aload_n (x := 0) dX5_tryOut_0 rfl ?_
  refine zg_getf (v := .inr 16) dX5_tryOut_1 zf_X5_60 rfl rfl rfl ?_
  refine zg_iload_n (x := p1) dX5_tryOut_4 rfl ?_
  refine zg_iconst (v := 1) dX5_tryOut_5 rfl ?_
  refine zg_zast (v := 1) dX5_tryOut_6 rfl hp rfl ?_
  refine zg_aload_n (x := 0) dX5_tryOut_7 rfl ?_
  refine zg_getf (v := .inr 14) dX5_tryOut_8 zf_X5_54 rfl rfl rfl ?_
  refine zg_iload_n (x := p1) dX5_tryOut_11 rfl ?_
  refine zg_aload_n (x := 0) dX5_tryOut_12 rfl ?_
  refine zg_iconst (v := (-1)) dX5_tryOut_13 rfl ?_
  refine zg_cVIM (As := [.inl (-1)]) (S := [.inl p1, .inr 14]) dX5_tryOut_14 zk_X5_115 (k_X5_take q (-1) (mup M 16 p1.toNatClampNeg 1)) rfl rfl ⟨by decide, by decide⟩ ⟨by decide, by decide⟩ rfl (Nat.le_of_ble_eq_true rfl) (fun q1 e_q1 => ?_)
  try dsimp only
  refine zg_st (pc' := 17) (L' := [some (.inr 0), some (.inl p1), some (.inl (bI p2)), none]) (S' := [.inl q1.1, .inl p1, .inr 14]) (M' := q1.2) rfl rfl rfl rfl ?_
  refine zg_iast dX5_tryOut_17 rfl hp ?_
  refine zg_aload_n (x := 0) dX5_tryOut_18 rfl ?_
  refine zg_getf (v := .inr 14) dX5_tryOut_19 zf_X5_54 rfl rfl rfl ?_
  refine zg_iload_n (x := p1) dX5_tryOut_22 rfl ?_
  refine zg_iald dX5_tryOut_23 rfl hp ?_
  refine zg_iconst (v := (-1)) dX5_tryOut_24 rfl ?_
  refine zg_join (pc' := 33) (Lf := fun (j2 : Bool) => [some (.inr 0), some (.inl p1), some (.inl (bI p2)), none]) (Sf := fun j2 => [.inl (bI j2)]) (Mf := fun j2 => (mup q1.2 14 p1.toNatClampNeg q1.1)) (fun (j2 : Bool) => ?_) (fun J3 => ?_)
  · try dsimp only
    refine zg_istore_n dX5_tryOut_33 (by decide) ?_
    refine zg_st (pc' := 34) (L' := [some (.inr 0), some (.inl p1), some (.inl (bI p2)), some (.inl (bI j2))]) (S' := []) (M' := (mup q1.2 14 p1.toNatClampNeg q1.1)) rfl rfl rfl rfl ?_
    refine zg_iload_n (x := bI j2) dX5_tryOut_34 rfl ?_
    refine zg_ifbe (tgt := 77) dX5_tryOut_35 rfl (fun c35 => ?_) (fun c35 => ?_)
    · refine zg_st (pc' := 38) (L' := [some (.inr 0), some (.inl p1), some (.inl (bI p2)), some (.inl (bI j2))]) (S' := []) (M' := (mup q1.2 14 p1.toNatClampNeg q1.1)) rfl rfl rfl rfl ?_
      refine zg_iload_n (x := bI p2) dX5_tryOut_38 rfl ?_
      refine zg_ifbe (tgt := 77) dX5_tryOut_39 rfl (fun c39 => ?_) (fun c39 => ?_)
      · refine zg_st (pc' := 42) (L' := [some (.inr 0), some (.inl p1), some (.inl (bI p2)), some (.inl (bI j2))]) (S' := []) (M' := (mup q1.2 14 p1.toNatClampNeg q1.1)) rfl rfl rfl rfl ?_
        refine zg_aload_n (x := 0) dX5_tryOut_42 rfl ?_
        refine zg_getf (v := .inr 15) dX5_tryOut_43 zf_X5_57 rfl rfl rfl ?_
        refine zg_iload_n (x := p1) dX5_tryOut_46 rfl ?_
        refine zg_aload_n (x := 0) dX5_tryOut_47 rfl ?_
        refine zg_aload_n (x := 0) dX5_tryOut_48 rfl ?_
        refine zg_getf (v := .inr 14) dX5_tryOut_49 zf_X5_54 rfl rfl rfl ?_
        refine zg_iload_n (x := p1) dX5_tryOut_52 rfl ?_
        refine zg_iald dX5_tryOut_53 rfl hp ?_
        refine zg_bipush (v := 40) dX5_tryOut_54 rfl ?_
        refine zg_idiv dX5_tryOut_56 (by decide) ?_
        refine zg_cVIM (As := [.inl (((mup q1.2 14 p1.toNatClampNeg q1.1) 14 p1.toNatClampNeg) / 40)]) (S := [.inl p1, .inr 15]) dX5_tryOut_57 zk_X5_115 (k_X5_take q (((mup q1.2 14 p1.toNatClampNeg q1.1) 14 p1.toNatClampNeg) / 40) (mup q1.2 14 p1.toNatClampNeg q1.1)) rfl rfl ⟨by decide, by decide⟩ ⟨by decide, by decide⟩ rfl (Nat.le_of_ble_eq_true rfl) (fun q4 e_q4 => ?_)
        try dsimp only
        refine zg_st (pc' := 60) (L' := [some (.inr 0), some (.inl p1), some (.inl (bI p2)), some (.inl (bI j2))]) (S' := [.inl q4.1, .inl p1, .inr 15]) (M' := q4.2) rfl rfl rfl rfl ?_
        refine zg_iast dX5_tryOut_60 rfl hp ?_
        refine zg_aload_n (x := 0) dX5_tryOut_61 rfl ?_
        refine zg_getf (v := .inr 15) dX5_tryOut_62 zf_X5_57 rfl rfl rfl ?_
        refine zg_iload_n (x := p1) dX5_tryOut_65 rfl ?_
        refine zg_iald dX5_tryOut_66 rfl hp ?_
        refine zg_iconst (v := (-1)) dX5_tryOut_67 rfl ?_
        refine zg_icmpz (tgt := 75) dX5_tryOut_68 rfl rfl (fun c68 => ?_) (fun c68 => ?_)
        · refine zg_st (pc' := 75) (L' := [some (.inr 0), some (.inl p1), some (.inl (bI p2)), some (.inl (bI j2))]) (S' := []) (M' := (mup q4.2 15 p1.toNatClampNeg q4.1)) rfl rfl rfl rfl ?_
          refine zg_iconst (v := 0) dX5_tryOut_75 rfl ?_
          refine zg_istore_n dX5_tryOut_76 (by decide) ?_
          refine zg_st (pc' := 77) (L' := [some (.inr 0), some (.inl p1), some (.inl (bI p2)), some (.inl 0)]) (S' := []) (M' := (mup q4.2 15 p1.toNatClampNeg q4.1)) rfl rfl rfl rfl ?_
          refine zg_iload_n (x := 0) dX5_tryOut_77 rfl ?_
          exact zg_iret dX5_tryOut_78 rfl rfl ⟨by decide, by decide⟩ rfl
        · refine zg_st (pc' := 71) (L' := [some (.inr 0), some (.inl p1), some (.inl (bI p2)), some (.inl (bI j2))]) (S' := []) (M' := (mup q4.2 15 p1.toNatClampNeg q4.1)) rfl rfl rfl rfl ?_
          refine zg_iconst (v := 1) dX5_tryOut_71 rfl ?_
          refine zg_goto (tgt := 76) dX5_tryOut_72 rfl ?_
          refine zg_st (pc' := 76) (L' := [some (.inr 0), some (.inl p1), some (.inl (bI p2)), some (.inl (bI j2))]) (S' := [.inl 1]) (M' := (mup q4.2 15 p1.toNatClampNeg q4.1)) rfl rfl rfl rfl ?_
          refine zg_istore_n dX5_tryOut_76 (by decide) ?_
          refine zg_st (pc' := 77) (L' := [some (.inr 0), some (.inl p1), some (.inl (bI p2)), some (.inl 1)]) (S' := []) (M' := (mup q4.2 15 p1.toNatClampNeg q4.1)) rfl rfl rfl rfl ?_
          refine zg_iload_n (x := 1) dX5_tryOut_77 rfl ?_
          exact zg_iret dX5_tryOut_78 rfl rfl ⟨by decide, by decide⟩ rfl
      · refine zg_st (pc' := 77) (L' := [some (.inr 0), some (.inl p1), some (.inl (bI p2)), some (.inl (bI j2))]) (S' := []) (M' := (mup q1.2 14 p1.toNatClampNeg q1.1)) rfl rfl rfl rfl ?_
        refine zg_iload_n (x := bI j2) dX5_tryOut_77 rfl ?_
        exact zg_iret dX5_tryOut_78 rfl (bI_nar _) ⟨by decide, by decide⟩ rfl
    · refine zg_st (pc' := 77) (L' := [some (.inr 0), some (.inl p1), some (.inl (bI p2)), some (.inl (bI j2))]) (S' := []) (M' := (mup q1.2 14 p1.toNatClampNeg q1.1)) rfl rfl rfl rfl ?_
      refine zg_iload_n (x := bI j2) dX5_tryOut_77 rfl ?_
      exact zg_iret dX5_tryOut_78 rfl (bI_nar _) ⟨by decide, by decide⟩ rfl
  · refine zg_icmpz (tgt := 32) dX5_tryOut_25 rfl rfl (fun c25 => ?_) (fun c25 => ?_)
    · refine zg_st (pc' := 32) (L' := [some (.inr 0), some (.inl p1), some (.inl (bI p2)), none]) (S' := []) (M' := (mup q1.2 14 p1.toNatClampNeg q1.1)) rfl rfl rfl rfl ?_
      refine zg_iconst (v := 0) dX5_tryOut_32 rfl ?_
      refine zg_drop (L' := [some (.inr 0), some (.inl p1), some (.inl (bI p2)), none]) ⟨rfl, rfl, rfl, trivial⟩ ?_
      exact J3 false
    · refine zg_st (pc' := 28) (L' := [some (.inr 0), some (.inl p1), some (.inl (bI p2)), none]) (S' := []) (M' := (mup q1.2 14 p1.toNatClampNeg q1.1)) rfl rfl rfl rfl ?_
      refine zg_iconst (v := 1) dX5_tryOut_28 rfl ?_
      refine zg_goto (tgt := 33) dX5_tryOut_29 rfl ?_
      refine zg_st (pc' := 33) (L' := [some (.inr 0), some (.inl p1), some (.inl (bI p2)), none]) (S' := [.inl 1]) (M' := (mup q1.2 14 p1.toNatClampNeg q1.1)) rfl rfl rfl rfl ?_
      refine zg_drop (L' := [some (.inr 0), some (.inl p1), some (.inl (bI p2)), none]) ⟨rfl, rfl, rfl, trivial⟩ ?_
      exact J3 true
theorem dX5_tries_0 : decode cX5_tries 0 = .ok (.aload_n 0, 1) := by decide +kernel
theorem dX5_tries_1 : decode cX5_tries 1 = .ok (.iconst 0, 1) := by decide +kernel
theorem dX5_tries_2 : decode cX5_tries 2 = .ok (.putfield 112, 3) := by decide +kernel
theorem dX5_tries_5 : decode cX5_tries 5 = .ok (.iconst 0, 1) := by decide +kernel
theorem dX5_tries_6 : decode cX5_tries 6 = .ok (.istore_n 1, 1) := by decide +kernel
theorem dX5_tries_7 : decode cX5_tries 7 = .ok (.iload_n 1, 1) := by decide +kernel
theorem dX5_tries_8 : decode cX5_tries 8 = .ok (.bipush 120, 2) := by decide +kernel
theorem dX5_tries_10 : decode cX5_tries 10 = .ok (.if_icmp .ge 21, 3) := by decide +kernel
theorem dX5_tries_13 : decode cX5_tries 13 = .ok (.aload_n 0, 1) := by decide +kernel
theorem dX5_tries_14 : decode cX5_tries 14 = .ok (.getfield 48, 3) := by decide +kernel
theorem dX5_tries_17 : decode cX5_tries 17 = .ok (.iload_n 1, 1) := by decide +kernel
theorem dX5_tries_18 : decode cX5_tries 18 = .ok (.aload_n 0, 1) := by decide +kernel
theorem dX5_tries_19 : decode cX5_tries 19 = .ok (.getfield 35, 3) := by decide +kernel
theorem dX5_tries_22 : decode cX5_tries 22 = .ok (.iload_n 1, 1) := by decide +kernel
theorem dX5_tries_23 : decode cX5_tries 23 = .ok (.baload, 1) := by decide +kernel
theorem dX5_tries_24 : decode cX5_tries 24 = .ok (.bastore, 1) := by decide +kernel
theorem dX5_tries_25 : decode cX5_tries 25 = .ok (.iinc 1 1, 3) := by decide +kernel
theorem dX5_tries_28 : decode cX5_tries 28 = .ok (.goto (-21), 3) := by decide +kernel
theorem dX5_tries_31 : decode cX5_tries 31 = .ok (.iconst 0, 1) := by decide +kernel
theorem dX5_tries_32 : decode cX5_tries 32 = .ok (.istore_n 1, 1) := by decide +kernel
theorem dX5_tries_33 : decode cX5_tries 33 = .ok (.iload_n 1, 1) := by decide +kernel
theorem dX5_tries_34 : decode cX5_tries 34 = .ok (.bipush 53, 2) := by decide +kernel
theorem dX5_tries_36 : decode cX5_tries 36 = .ok (.if_icmp .ge 30, 3) := by decide +kernel
theorem dX5_tries_39 : decode cX5_tries 39 = .ok (.aload_n 0, 1) := by decide +kernel
theorem dX5_tries_40 : decode cX5_tries 40 = .ok (.getfield 60, 3) := by decide +kernel
theorem dX5_tries_43 : decode cX5_tries 43 = .ok (.iload_n 1, 1) := by decide +kernel
theorem dX5_tries_44 : decode cX5_tries 44 = .ok (.iconst 0, 1) := by decide +kernel
theorem dX5_tries_45 : decode cX5_tries 45 = .ok (.bastore, 1) := by decide +kernel
theorem dX5_tries_46 : decode cX5_tries 46 = .ok (.aload_n 0, 1) := by decide +kernel
theorem dX5_tries_47 : decode cX5_tries 47 = .ok (.getfield 54, 3) := by decide +kernel
theorem dX5_tries_50 : decode cX5_tries 50 = .ok (.iload_n 1, 1) := by decide +kernel
theorem dX5_tries_51 : decode cX5_tries 51 = .ok (.iconst (-1), 1) := by decide +kernel
theorem dX5_tries_52 : decode cX5_tries 52 = .ok (.iastore, 1) := by decide +kernel
theorem dX5_tries_53 : decode cX5_tries 53 = .ok (.aload_n 0, 1) := by decide +kernel
theorem dX5_tries_54 : decode cX5_tries 54 = .ok (.getfield 57, 3) := by decide +kernel
theorem dX5_tries_57 : decode cX5_tries 57 = .ok (.iload_n 1, 1) := by decide +kernel
theorem dX5_tries_58 : decode cX5_tries 58 = .ok (.iconst (-1), 1) := by decide +kernel
theorem dX5_tries_59 : decode cX5_tries 59 = .ok (.iastore, 1) := by decide +kernel
theorem dX5_tries_60 : decode cX5_tries 60 = .ok (.iinc 1 1, 3) := by decide +kernel
theorem dX5_tries_63 : decode cX5_tries 63 = .ok (.goto (-30), 3) := by decide +kernel
theorem dX5_tries_66 : decode cX5_tries 66 = .ok (.iconst 1, 1) := by decide +kernel
theorem dX5_tries_67 : decode cX5_tries 67 = .ok (.istore_n 1, 1) := by decide +kernel
theorem dX5_tries_68 : decode cX5_tries 68 = .ok (.iconst 0, 1) := by decide +kernel
theorem dX5_tries_69 : decode cX5_tries 69 = .ok (.istore_n 2, 1) := by decide +kernel
theorem dX5_tries_70 : decode cX5_tries 70 = .ok (.iconst 0, 1) := by decide +kernel
theorem dX5_tries_71 : decode cX5_tries 71 = .ok (.istore_n 3, 1) := by decide +kernel
theorem dX5_tries_72 : decode cX5_tries 72 = .ok (.iconst 0, 1) := by decide +kernel
theorem dX5_tries_73 : decode cX5_tries 73 = .ok (.istore 4, 2) := by decide +kernel
theorem dX5_tries_75 : decode cX5_tries 75 = .ok (.iload 4, 2) := by decide +kernel
theorem dX5_tries_77 : decode cX5_tries 77 = .ok (.iconst 4, 1) := by decide +kernel
theorem dX5_tries_78 : decode cX5_tries 78 = .ok (.if_icmp .ge 181, 3) := by decide +kernel
theorem dX5_tries_81 : decode cX5_tries 81 = .ok (.iload_n 1, 1) := by decide +kernel
theorem dX5_tries_82 : decode cX5_tries 82 = .ok (.ifCond .eq 177, 3) := by decide +kernel
theorem dX5_tries_85 : decode cX5_tries 85 = .ok (.iload_n 3, 1) := by decide +kernel
theorem dX5_tries_86 : decode cX5_tries 86 = .ok (.ifCond .ne 12, 3) := by decide +kernel
theorem dX5_tries_89 : decode cX5_tries 89 = .ok (.aload_n 0, 1) := by decide +kernel
theorem dX5_tries_90 : decode cX5_tries 90 = .ok (.iload 4, 2) := by decide +kernel
theorem dX5_tries_92 : decode cX5_tries 92 = .ok (.invokevirtual 118, 3) := by decide +kernel
theorem dX5_tries_95 : decode cX5_tries 95 = .ok (.ifCond .eq 7, 3) := by decide +kernel
theorem dX5_tries_98 : decode cX5_tries 98 = .ok (.iconst 1, 1) := by decide +kernel
theorem dX5_tries_99 : decode cX5_tries 99 = .ok (.goto 4, 3) := by decide +kernel
theorem dX5_tries_102 : decode cX5_tries 102 = .ok (.iconst 0, 1) := by decide +kernel
theorem dX5_tries_103 : decode cX5_tries 103 = .ok (.istore_n 3, 1) := by decide +kernel
theorem dX5_tries_104 : decode cX5_tries 104 = .ok (.aload_n 0, 1) := by decide +kernel
theorem dX5_tries_105 : decode cX5_tries 105 = .ok (.iload 4, 2) := by decide +kernel
theorem dX5_tries_107 : decode cX5_tries 107 = .ok (.invokevirtual 121, 3) := by decide +kernel
theorem dX5_tries_110 : decode cX5_tries 110 = .ok (.ifCond .eq 143, 3) := by decide +kernel
theorem dX5_tries_113 : decode cX5_tries 113 = .ok (.iconst 1, 1) := by decide +kernel
theorem dX5_tries_114 : decode cX5_tries 114 = .ok (.istore_n 2, 1) := by decide +kernel
theorem dX5_tries_115 : decode cX5_tries 115 = .ok (.aload_n 0, 1) := by decide +kernel
theorem dX5_tries_116 : decode cX5_tries 116 = .ok (.getfield 60, 3) := by decide +kernel
theorem dX5_tries_119 : decode cX5_tries 119 = .ok (.bipush 48, 2) := by decide +kernel
theorem dX5_tries_121 : decode cX5_tries 121 = .ok (.iload 4, 2) := by decide +kernel
theorem dX5_tries_123 : decode cX5_tries 123 = .ok (.iadd, 1) := by decide +kernel
theorem dX5_tries_124 : decode cX5_tries 124 = .ok (.iconst 1, 1) := by decide +kernel
theorem dX5_tries_125 : decode cX5_tries 125 = .ok (.bastore, 1) := by decide +kernel
theorem dX5_tries_126 : decode cX5_tries 126 = .ok (.bipush 12, 2) := by decide +kernel
theorem dX5_tries_128 : decode cX5_tries 128 = .ok (.iload 4, 2) := by decide +kernel
theorem dX5_tries_130 : decode cX5_tries 130 = .ok (.imul, 1) := by decide +kernel
theorem dX5_tries_131 : decode cX5_tries 131 = .ok (.istore 5, 2) := by decide +kernel
theorem dX5_tries_133 : decode cX5_tries 133 = .ok (.iload 5, 2) := by decide +kernel
theorem dX5_tries_135 : decode cX5_tries 135 = .ok (.bipush 12, 2) := by decide +kernel
theorem dX5_tries_137 : decode cX5_tries 137 = .ok (.iload 4, 2) := by decide +kernel
theorem dX5_tries_139 : decode cX5_tries 139 = .ok (.imul, 1) := by decide +kernel
theorem dX5_tries_140 : decode cX5_tries 140 = .ok (.bipush 12, 2) := by decide +kernel
theorem dX5_tries_142 : decode cX5_tries 142 = .ok (.iadd, 1) := by decide +kernel
theorem dX5_tries_143 : decode cX5_tries 143 = .ok (.if_icmp .ge 78, 3) := by decide +kernel
theorem dX5_tries_146 : decode cX5_tries 146 = .ok (.iload_n 1, 1) := by decide +kernel
theorem dX5_tries_147 : decode cX5_tries 147 = .ok (.ifCond .eq 74, 3) := by decide +kernel
theorem dX5_tries_150 : decode cX5_tries 150 = .ok (.aload_n 0, 1) := by decide +kernel
theorem dX5_tries_151 : decode cX5_tries 151 = .ok (.getfield 60, 3) := by decide +kernel
theorem dX5_tries_154 : decode cX5_tries 154 = .ok (.iload 5, 2) := by decide +kernel
theorem dX5_tries_156 : decode cX5_tries 156 = .ok (.aload_n 0, 1) := by decide +kernel
theorem dX5_tries_157 : decode cX5_tries 157 = .ok (.getfield 20, 3) := by decide +kernel
theorem dX5_tries_160 : decode cX5_tries 160 = .ok (.iload 5, 2) := by decide +kernel
theorem dX5_tries_162 : decode cX5_tries 162 = .ok (.iaload, 1) := by decide +kernel
theorem dX5_tries_163 : decode cX5_tries 163 = .ok (.iconst (-1), 1) := by decide +kernel
theorem dX5_tries_164 : decode cX5_tries 164 = .ok (.if_icmp .eq 7, 3) := by decide +kernel
theorem dX5_tries_167 : decode cX5_tries 167 = .ok (.iconst 1, 1) := by decide +kernel
theorem dX5_tries_168 : decode cX5_tries 168 = .ok (.goto 4, 3) := by decide +kernel
theorem dX5_tries_171 : decode cX5_tries 171 = .ok (.iconst 0, 1) := by decide +kernel
theorem dX5_tries_172 : decode cX5_tries 172 = .ok (.bastore, 1) := by decide +kernel
theorem dX5_tries_173 : decode cX5_tries 173 = .ok (.aload_n 0, 1) := by decide +kernel
theorem dX5_tries_174 : decode cX5_tries 174 = .ok (.getfield 20, 3) := by decide +kernel
theorem dX5_tries_177 : decode cX5_tries 177 = .ok (.iload 5, 2) := by decide +kernel
theorem dX5_tries_179 : decode cX5_tries 179 = .ok (.iaload, 1) := by decide +kernel
theorem dX5_tries_180 : decode cX5_tries 180 = .ok (.iconst 1, 1) := by decide +kernel
theorem dX5_tries_181 : decode cX5_tries 181 = .ok (.if_icmp .lt 28, 3) := by decide +kernel
theorem dX5_tries_184 : decode cX5_tries 184 = .ok (.aload_n 0, 1) := by decide +kernel
theorem dX5_tries_185 : decode cX5_tries 185 = .ok (.iload 5, 2) := by decide +kernel
theorem dX5_tries_187 : decode cX5_tries 187 = .ok (.aload_n 0, 1) := by decide +kernel
theorem dX5_tries_188 : decode cX5_tries 188 = .ok (.getfield 13, 3) := by decide +kernel
theorem dX5_tries_191 : decode cX5_tries 191 = .ok (.iload 4, 2) := by decide +kernel
theorem dX5_tries_193 : decode cX5_tries 193 = .ok (.iaload, 1) := by decide +kernel
theorem dX5_tries_194 : decode cX5_tries 194 = .ok (.iconst 2, 1) := by decide +kernel
theorem dX5_tries_195 : decode cX5_tries 195 = .ok (.if_icmp .ne 7, 3) := by decide +kernel
theorem dX5_tries_198 : decode cX5_tries 198 = .ok (.iconst 1, 1) := by decide +kernel
theorem dX5_tries_199 : decode cX5_tries 199 = .ok (.goto 4, 3) := by decide +kernel
theorem dX5_tries_202 : decode cX5_tries 202 = .ok (.iconst 0, 1) := by decide +kernel
theorem dX5_tries_203 : decode cX5_tries 203 = .ok (.invokevirtual 124, 3) := by decide +kernel
theorem dX5_tries_206 : decode cX5_tries 206 = .ok (.ifCond .eq 7, 3) := by decide +kernel
theorem dX5_tries_209 : decode cX5_tries 209 = .ok (.iconst 1, 1) := by decide +kernel
theorem dX5_tries_210 : decode cX5_tries 210 = .ok (.goto 4, 3) := by decide +kernel
theorem dX5_tries_213 : decode cX5_tries 213 = .ok (.iconst 0, 1) := by decide +kernel
theorem dX5_tries_214 : decode cX5_tries 214 = .ok (.istore_n 1, 1) := by decide +kernel
theorem dX5_tries_215 : decode cX5_tries 215 = .ok (.iinc 5 1, 3) := by decide +kernel
theorem dX5_tries_218 : decode cX5_tries 218 = .ok (.goto (-85), 3) := by decide +kernel
theorem dX5_tries_221 : decode cX5_tries 221 = .ok (.iload_n 1, 1) := by decide +kernel
theorem dX5_tries_222 : decode cX5_tries 222 = .ok (.ifCond .eq 29, 3) := by decide +kernel
theorem dX5_tries_225 : decode cX5_tries 225 = .ok (.aload_n 0, 1) := by decide +kernel
theorem dX5_tries_226 : decode cX5_tries 226 = .ok (.iload 4, 2) := by decide +kernel
theorem dX5_tries_228 : decode cX5_tries 228 = .ok (.invokevirtual 118, 3) := by decide +kernel
theorem dX5_tries_231 : decode cX5_tries 231 = .ok (.ifCond .eq 16, 3) := by decide +kernel
theorem dX5_tries_234 : decode cX5_tries 234 = .ok (.aload_n 0, 1) := by decide +kernel
theorem dX5_tries_235 : decode cX5_tries 235 = .ok (.bipush 48, 2) := by decide +kernel
theorem dX5_tries_237 : decode cX5_tries 237 = .ok (.iload 4, 2) := by decide +kernel
theorem dX5_tries_239 : decode cX5_tries 239 = .ok (.iadd, 1) := by decide +kernel
theorem dX5_tries_240 : decode cX5_tries 240 = .ok (.iconst 1, 1) := by decide +kernel
theorem dX5_tries_241 : decode cX5_tries 241 = .ok (.invokevirtual 124, 3) := by decide +kernel
theorem dX5_tries_244 : decode cX5_tries 244 = .ok (.ifCond .eq 7, 3) := by decide +kernel
theorem dX5_tries_247 : decode cX5_tries 247 = .ok (.iconst 1, 1) := by decide +kernel
theorem dX5_tries_248 : decode cX5_tries 248 = .ok (.goto 4, 3) := by decide +kernel
theorem dX5_tries_251 : decode cX5_tries 251 = .ok (.iconst 0, 1) := by decide +kernel
theorem dX5_tries_252 : decode cX5_tries 252 = .ok (.istore_n 1, 1) := by decide +kernel
theorem dX5_tries_253 : decode cX5_tries 253 = .ok (.iinc 4 1, 3) := by decide +kernel
theorem dX5_tries_256 : decode cX5_tries 256 = .ok (.goto (-181), 3) := by decide +kernel
theorem dX5_tries_259 : decode cX5_tries 259 = .ok (.aload_n 0, 1) := by decide +kernel
theorem dX5_tries_260 : decode cX5_tries 260 = .ok (.getfield 60, 3) := by decide +kernel
theorem dX5_tries_263 : decode cX5_tries 263 = .ok (.bipush 52, 2) := by decide +kernel
theorem dX5_tries_265 : decode cX5_tries 265 = .ok (.iload_n 2, 1) := by decide +kernel
theorem dX5_tries_266 : decode cX5_tries 266 = .ok (.bastore, 1) := by decide +kernel
theorem dX5_tries_267 : decode cX5_tries 267 = .ok (.iload_n 1, 1) := by decide +kernel
theorem dX5_tries_268 : decode cX5_tries 268 = .ok (.ifCond .eq 25, 3) := by decide +kernel
theorem dX5_tries_271 : decode cX5_tries 271 = .ok (.iload_n 2, 1) := by decide +kernel
theorem dX5_tries_272 : decode cX5_tries 272 = .ok (.ifCond .eq 17, 3) := by decide +kernel
theorem dX5_tries_275 : decode cX5_tries 275 = .ok (.iload_n 3, 1) := by decide +kernel
theorem dX5_tries_276 : decode cX5_tries 276 = .ok (.ifCond .eq 13, 3) := by decide +kernel
theorem dX5_tries_279 : decode cX5_tries 279 = .ok (.aload_n 0, 1) := by decide +kernel
theorem dX5_tries_280 : decode cX5_tries 280 = .ok (.bipush 52, 2) := by decide +kernel
theorem dX5_tries_282 : decode cX5_tries 282 = .ok (.iconst 1, 1) := by decide +kernel
theorem dX5_tries_283 : decode cX5_tries 283 = .ok (.invokevirtual 124, 3) := by decide +kernel
theorem dX5_tries_286 : decode cX5_tries 286 = .ok (.ifCond .eq 7, 3) := by decide +kernel
theorem dX5_tries_289 : decode cX5_tries 289 = .ok (.iconst 1, 1) := by decide +kernel
theorem dX5_tries_290 : decode cX5_tries 290 = .ok (.goto 4, 3) := by decide +kernel
theorem dX5_tries_293 : decode cX5_tries 293 = .ok (.iconst 0, 1) := by decide +kernel
theorem dX5_tries_294 : decode cX5_tries 294 = .ok (.ireturn, 1) := by decide +kernel
def b_X5_tries_7 (rec : Int32 → Mem → Int32 × Mem) (v1 : Int32) (N : Mem) : Int32 × Mem :=
  if 120 ≤ v1 then (v1, N)
  else rec (v1 + 1) (mup N 12 v1.toNatClampNeg (vp_nar .boolean (N 8 v1.toNatClampNeg)))
def l_X5_tries_7 : Nat → Int32 → Mem → Int32 × Mem
  | 0, v1, N => (v1, N)
  | n + 1, v1, N => b_X5_tries_7 (l_X5_tries_7 n) v1 N
set_option maxRecDepth 100000 in
set_option maxHeartbeats 4000000 in
theorem kl_X5_tries_7 (q : ZQ) {K : Int32 × Mem → ZR} (hx : ∀ e : Int32 × Mem, (0 : Int) ≤ e.1.toInt → Zg (zgM q) mX5_tries 0 0 0 0 (K e) 31 [some (.inr 0), some (.inl e.1), none, none, none, none] [] e.2) :
    ∀ (n : Nat) (v1 : Int32) (N : Mem), (0 : Int) ≤ v1.toInt → ((120 : Int32).toInt - (v1 : Int32).toInt).toNat < n → Zg (zgM q) mX5_tries 0 0 0 0 (zlet (l_X5_tries_7 n v1 N) K) 7 [some (.inr 0), some (.inl v1), none, none, none, none] [] N := by
  intro n
  induction n with
  | zero => intro v1 N hI hm; exact absurd hm (Nat.not_lt_zero _)
  | succ n ih =>
    intro v1 N hI hm
    show Zg _ _ _ _ _ _ (zlet (b_X5_tries_7 (l_X5_tries_7 n) v1 N) K) _ _ _ _
    unfold b_X5_tries_7
    refine zg_iload_n (x := v1) dX5_tries_7 rfl ?_
    refine zg_bipush (v := 120) dX5_tries_8 rfl ?_
    refine zg_icmpz (tgt := 31) dX5_tries_10 rfl rfl (fun c10 => ?_) (fun c10 => ?_)
    · refine zg_st (pc' := 31) (L' := [some (.inr 0), some (.inl v1), none, none, none, none]) (S' := []) (M' := N) rfl rfl rfl rfl ?_
      refine zg_drop (L' := [some (.inr 0), some (.inl v1), none, none, none, none]) ⟨rfl, rfl, trivial⟩ ?_
      exact hx (v1, N) hI
    · refine zg_st (pc' := 13) (L' := [some (.inr 0), some (.inl v1), none, none, none, none]) (S' := []) (M' := N) rfl rfl rfl rfl ?_
      refine zg_aload_n (x := 0) dX5_tries_13 rfl ?_
      refine zg_getf (v := .inr 12) dX5_tries_14 zf_X5_48 rfl rfl rfl ?_
      refine zg_iload_n (x := v1) dX5_tries_17 rfl ?_
      refine zg_aload_n (x := 0) dX5_tries_18 rfl ?_
      refine zg_getf (v := .inr 8) dX5_tries_19 zf_X5_35 rfl rfl rfl ?_
      refine zg_iload_n (x := v1) dX5_tries_22 rfl ?_
      refine zg_zald dX5_tries_23 rfl (z_lt c10 rfl hI) ?_
      refine zg_zast (v := vp_nar .boolean (N 8 v1.toNatClampNeg)) dX5_tries_24 rfl (z_lt c10 rfl hI) rfl ?_
      refine zg_iinc (v := (v1 + 1)) dX5_tries_25 rfl (by decide) rfl ?_
      refine zg_st (pc' := 28) (L' := [some (.inr 0), some (.inl (v1 + 1)), none, none, none, none]) (S' := []) (M' := (mup N 12 v1.toNatClampNeg (vp_nar .boolean (N 8 v1.toNatClampNeg)))) rfl rfl rfl rfl ?_
      refine zg_goto (tgt := 7) dX5_tries_28 rfl ?_
      refine zg_st (pc' := 7) (L' := [some (.inr 0), some (.inl (v1 + 1)), none, none, none, none]) (S' := []) (M' := (mup N 12 v1.toNatClampNeg (vp_nar .boolean (N 8 v1.toNatClampNeg)))) rfl rfl rfl rfl ?_
      refine zg_drop (L' := [some (.inr 0), some (.inl (v1 + 1)), none, none, none, none]) ⟨rfl, rfl, trivial⟩ ?_
      exact ih (v1 + 1) (mup N 12 v1.toNatClampNeg (vp_nar .boolean (N 8 v1.toNatClampNeg))) (z_ge0 c10 hI) (z_up c10 hm)
def b_X5_tries_33 (rec : Int32 → Mem → Int32 × Mem) (v1 : Int32) (N : Mem) : Int32 × Mem :=
  if 53 ≤ v1 then (v1, N)
  else rec (v1 + 1) (mup (mup (mup N 16 v1.toNatClampNeg 0) 14 v1.toNatClampNeg (-1)) 15 v1.toNatClampNeg (-1))
def l_X5_tries_33 : Nat → Int32 → Mem → Int32 × Mem
  | 0, v1, N => (v1, N)
  | n + 1, v1, N => b_X5_tries_33 (l_X5_tries_33 n) v1 N
set_option maxRecDepth 100000 in
set_option maxHeartbeats 4000000 in
theorem kl_X5_tries_33 (q : ZQ) {K : Int32 × Mem → ZR} (hx : ∀ e : Int32 × Mem, (0 : Int) ≤ e.1.toInt → Zg (zgM q) mX5_tries 0 0 0 0 (K e) 66 [some (.inr 0), some (.inl e.1), none, none, none, none] [] e.2) :
    ∀ (n : Nat) (v1 : Int32) (N : Mem), (0 : Int) ≤ v1.toInt → ((53 : Int32).toInt - (v1 : Int32).toInt).toNat < n → Zg (zgM q) mX5_tries 0 0 0 0 (zlet (l_X5_tries_33 n v1 N) K) 33 [some (.inr 0), some (.inl v1), none, none, none, none] [] N := by
  intro n
  induction n with
  | zero => intro v1 N hI hm; exact absurd hm (Nat.not_lt_zero _)
  | succ n ih =>
    intro v1 N hI hm
    show Zg _ _ _ _ _ _ (zlet (b_X5_tries_33 (l_X5_tries_33 n) v1 N) K) _ _ _ _
    unfold b_X5_tries_33
    refine zg_iload_n (x := v1) dX5_tries_33 rfl ?_
    refine zg_bipush (v := 53) dX5_tries_34 rfl ?_
    refine zg_icmpz (tgt := 66) dX5_tries_36 rfl rfl (fun c36 => ?_) (fun c36 => ?_)
    · refine zg_st (pc' := 66) (L' := [some (.inr 0), some (.inl v1), none, none, none, none]) (S' := []) (M' := N) rfl rfl rfl rfl ?_
      refine zg_drop (L' := [some (.inr 0), some (.inl v1), none, none, none, none]) ⟨rfl, rfl, trivial⟩ ?_
      exact hx (v1, N) hI
    · refine zg_st (pc' := 39) (L' := [some (.inr 0), some (.inl v1), none, none, none, none]) (S' := []) (M' := N) rfl rfl rfl rfl ?_
      refine zg_aload_n (x := 0) dX5_tries_39 rfl ?_
      refine zg_getf (v := .inr 16) dX5_tries_40 zf_X5_60 rfl rfl rfl ?_
      refine zg_iload_n (x := v1) dX5_tries_43 rfl ?_
      refine zg_iconst (v := 0) dX5_tries_44 rfl ?_
      refine zg_zast (v := 0) dX5_tries_45 rfl (z_lt c36 rfl hI) rfl ?_
      refine zg_aload_n (x := 0) dX5_tries_46 rfl ?_
      refine zg_getf (v := .inr 14) dX5_tries_47 zf_X5_54 rfl rfl rfl ?_
      refine zg_iload_n (x := v1) dX5_tries_50 rfl ?_
      refine zg_iconst (v := (-1)) dX5_tries_51 rfl ?_
      refine zg_iast dX5_tries_52 rfl (z_lt c36 rfl hI) ?_
      refine zg_aload_n (x := 0) dX5_tries_53 rfl ?_
      refine zg_getf (v := .inr 15) dX5_tries_54 zf_X5_57 rfl rfl rfl ?_
      refine zg_iload_n (x := v1) dX5_tries_57 rfl ?_
      refine zg_iconst (v := (-1)) dX5_tries_58 rfl ?_
      refine zg_iast dX5_tries_59 rfl (z_lt c36 rfl hI) ?_
      refine zg_iinc (v := (v1 + 1)) dX5_tries_60 rfl (by decide) rfl ?_
      refine zg_st (pc' := 63) (L' := [some (.inr 0), some (.inl (v1 + 1)), none, none, none, none]) (S' := []) (M' := (mup (mup (mup N 16 v1.toNatClampNeg 0) 14 v1.toNatClampNeg (-1)) 15 v1.toNatClampNeg (-1))) rfl rfl rfl rfl ?_
      refine zg_goto (tgt := 33) dX5_tries_63 rfl ?_
      refine zg_st (pc' := 33) (L' := [some (.inr 0), some (.inl (v1 + 1)), none, none, none, none]) (S' := []) (M' := (mup (mup (mup N 16 v1.toNatClampNeg 0) 14 v1.toNatClampNeg (-1)) 15 v1.toNatClampNeg (-1))) rfl rfl rfl rfl ?_
      refine zg_drop (L' := [some (.inr 0), some (.inl (v1 + 1)), none, none, none, none]) ⟨rfl, rfl, trivial⟩ ?_
      exact ih (v1 + 1) (mup (mup (mup N 16 v1.toNatClampNeg 0) 14 v1.toNatClampNeg (-1)) 15 v1.toNatClampNeg (-1)) (z_ge0 c36 hI) (z_up c36 hm)
def b_X5_tries_133 (x2 : Int32) (x3 : Bool) (x4 : Int32) (rec : Bool → Int32 → Mem → Bool × Int32 × Mem) (v1 : Bool) (v5 : Int32) (N : Mem) : Bool × Int32 × Mem :=
  if ((12 * x4) + 12) ≤ v5 then (v1, v5, N)
  else if v1 then zlet (if (N 3 v5.toNatClampNeg) = (-1) then false
      else true) (fun (j5 : Bool) =>
    if ((mup N 16 v5.toNatClampNeg (bI j5)) 3 v5.toNatClampNeg) < 1 then rec true (v5 + 1) (mup N 16 v5.toNatClampNeg (bI j5))
      else if ¬ ((mup N 16 v5.toNatClampNeg (bI j5)) 1 x4.toNatClampNeg) = 2 then zlet (f_X5_tryOut v5 false (mup N 16 v5.toNatClampNeg (bI j5))) (fun q7 =>
        if q7.1 then rec true (v5 + 1) q7.2
          else rec false (v5 + 1) q7.2)
      else zlet (f_X5_tryOut v5 true (mup N 16 v5.toNatClampNeg (bI j5))) (fun q8 =>
      if q8.1 then rec true (v5 + 1) q8.2
        else rec false (v5 + 1) q8.2))
  else (v1, v5, N)
def l_X5_tries_133 (x2 : Int32) (x3 : Bool) (x4 : Int32) : Nat → Bool → Int32 → Mem → Bool × Int32 × Mem
  | 0, v1, v5, N => (v1, v5, N)
  | n + 1, v1, v5, N => b_X5_tries_133 x2 x3 x4 (l_X5_tries_133 x2 x3 x4 n) v1 v5 N
set_option maxRecDepth 100000 in
set_option maxHeartbeats 4000000 in
theorem kl_X5_tries_133 (q : ZQ) (x2 : Int32) (x3 : Bool) (x4 : Int32) (hx4 : 0 ≤ x4.toInt ∧ x4.toInt < 4) {K : Bool × Int32 × Mem → ZR} (hx : ∀ e : Bool × Int32 × Mem, (0 : Int) ≤ e.2.1.toInt → Zg (zgM q) mX5_tries 0 0 0 0 (K e) 221 [some (.inr 0), some (.inl (bI e.1)), some (.inl x2), some (.inl (bI x3)), some (.inl x4), some (.inl e.2.1)] [] e.2.2) :
    ∀ (n : Nat) (v1 : Bool) (v5 : Int32) (N : Mem), (0 : Int) ≤ v5.toInt → ((((12 * x4) + 12) : Int32).toInt - (v5 : Int32).toInt).toNat < n → Zg (zgM q) mX5_tries 0 0 0 0 (zlet (l_X5_tries_133 x2 x3 x4 n v1 v5 N) K) 133 [some (.inr 0), some (.inl (bI v1)), some (.inl x2), some (.inl (bI x3)), some (.inl x4), some (.inl v5)] [] N := by
  intro n
  induction n with
  | zero => intro v1 v5 N hI hm; exact absurd hm (Nat.not_lt_zero _)
  | succ n ih =>
    intro v1 v5 N hI hm
    show Zg _ _ _ _ _ _ (zlet (b_X5_tries_133 x2 x3 x4 (l_X5_tries_133 x2 x3 x4 n) v1 v5 N) K) _ _ _ _
    unfold b_X5_tries_133
    refine zg_iload (x := v5) dX5_tries_133 rfl ?_
    refine zg_bipush (v := 12) dX5_tries_135 rfl ?_
    refine zg_iload (x := x4) dX5_tries_137 rfl ?_
    refine zg_imul dX5_tries_139 ?_
    refine zg_bipush (v := 12) dX5_tries_140 rfl ?_
    refine zg_iadd dX5_tries_142 ?_
    refine zg_icmpz (tgt := 221) dX5_tries_143 rfl rfl (fun c143 => ?_) (fun c143 => ?_)
    · refine zg_st (pc' := 221) (L' := [some (.inr 0), some (.inl (bI v1)), some (.inl x2), some (.inl (bI x3)), some (.inl x4), some (.inl v5)]) (S' := []) (M' := N) rfl rfl rfl rfl ?_
      refine zg_drop (L' := [some (.inr 0), some (.inl (bI v1)), some (.inl x2), some (.inl (bI x3)), some (.inl x4), some (.inl v5)]) ⟨rfl, rfl, rfl, rfl, rfl, rfl, trivial⟩ ?_
      exact hx (v1, v5, N) hI
    · refine zg_st (pc' := 146) (L' := [some (.inr 0), some (.inl (bI v1)), some (.inl x2), some (.inl (bI x3)), some (.inl x4), some (.inl v5)]) (S' := []) (M' := N) rfl rfl rfl rfl ?_
      refine zg_iload_n (x := bI v1) dX5_tries_146 rfl ?_
      refine zg_ifbe (tgt := 221) dX5_tries_147 rfl (fun c147 => ?_) (fun c147 => ?_)
      · refine zg_st (pc' := 150) (L' := [some (.inr 0), some (.inl (bI v1)), some (.inl x2), some (.inl (bI x3)), some (.inl x4), some (.inl v5)]) (S' := []) (M' := N) rfl rfl rfl rfl ?_
        refine zg_aload_n (x := 0) dX5_tries_150 rfl ?_
        refine zg_getf (v := .inr 16) dX5_tries_151 zf_X5_60 rfl rfl rfl ?_
        refine zg_iload (x := v5) dX5_tries_154 rfl ?_
        refine zg_aload_n (x := 0) dX5_tries_156 rfl ?_
        refine zg_getf (v := .inr 3) dX5_tries_157 zf_X5_20 rfl rfl rfl ?_
        refine zg_iload (x := v5) dX5_tries_160 rfl ?_
        refine zg_iald dX5_tries_162 rfl (by first | with_reducible exact z_hd c143 hx4 hI | with_reducible exact z_48to53 (z_hd c143 hx4 hI) | with_reducible exact z_v4 hx4) ?_
        refine zg_iconst (v := (-1)) dX5_tries_163 rfl ?_
        refine zg_join (pc' := 172) (Lf := fun (j5 : Bool) => [some (.inr 0), some (.inl (bI v1)), some (.inl x2), some (.inl (bI x3)), some (.inl x4), some (.inl v5)]) (Sf := fun j5 => [.inl (bI j5), .inl v5, .inr 16]) (Mf := fun j5 => N) (fun (j5 : Bool) => ?_) (fun J6 => ?_)
        · try dsimp only
          refine zg_zast (v := bI j5) dX5_tries_172 rfl (by first | with_reducible exact z_hd c143 hx4 hI | with_reducible exact z_48to53 (z_hd c143 hx4 hI) | with_reducible exact z_v4 hx4) (bI_vp _) ?_
          refine zg_aload_n (x := 0) dX5_tries_173 rfl ?_
          refine zg_getf (v := .inr 3) dX5_tries_174 zf_X5_20 rfl rfl rfl ?_
          refine zg_iload (x := v5) dX5_tries_177 rfl ?_
          refine zg_iald dX5_tries_179 rfl (by first | with_reducible exact z_hd c143 hx4 hI | with_reducible exact z_48to53 (z_hd c143 hx4 hI) | with_reducible exact z_v4 hx4) ?_
          refine zg_iconst (v := 1) dX5_tries_180 rfl ?_
          refine zg_icmpz (tgt := 209) dX5_tries_181 rfl rfl (fun c181 => ?_) (fun c181 => ?_)
          · refine zg_st (pc' := 209) (L' := [some (.inr 0), some (.inl (bI v1)), some (.inl x2), some (.inl (bI x3)), some (.inl x4), some (.inl v5)]) (S' := []) (M' := (mup N 16 v5.toNatClampNeg (bI j5))) rfl rfl rfl rfl ?_
            refine zg_iconst (v := 1) dX5_tries_209 rfl ?_
            refine zg_goto (tgt := 214) dX5_tries_210 rfl ?_
            refine zg_st (pc' := 214) (L' := [some (.inr 0), some (.inl (bI v1)), some (.inl x2), some (.inl (bI x3)), some (.inl x4), some (.inl v5)]) (S' := [.inl 1]) (M' := (mup N 16 v5.toNatClampNeg (bI j5))) rfl rfl rfl rfl ?_
            refine zg_istore_n dX5_tries_214 (by decide) ?_
            refine zg_st (pc' := 215) (L' := [some (.inr 0), some (.inl 1), some (.inl x2), some (.inl (bI x3)), some (.inl x4), some (.inl v5)]) (S' := []) (M' := (mup N 16 v5.toNatClampNeg (bI j5))) rfl rfl rfl rfl ?_
            refine zg_iinc (v := (v5 + 1)) dX5_tries_215 rfl (by decide) rfl ?_
            refine zg_st (pc' := 218) (L' := [some (.inr 0), some (.inl 1), some (.inl x2), some (.inl (bI x3)), some (.inl x4), some (.inl (v5 + 1))]) (S' := []) (M' := (mup N 16 v5.toNatClampNeg (bI j5))) rfl rfl rfl rfl ?_
            refine zg_goto (tgt := 133) dX5_tries_218 rfl ?_
            refine zg_st (pc' := 133) (L' := [some (.inr 0), some (.inl 1), some (.inl x2), some (.inl (bI x3)), some (.inl x4), some (.inl (v5 + 1))]) (S' := []) (M' := (mup N 16 v5.toNatClampNeg (bI j5))) rfl rfl rfl rfl ?_
            refine zg_drop (L' := [some (.inr 0), some (.inl 1), some (.inl x2), some (.inl (bI x3)), some (.inl x4), some (.inl (v5 + 1))]) ⟨rfl, rfl, rfl, rfl, rfl, rfl, trivial⟩ ?_
            exact ih true (v5 + 1) (mup N 16 v5.toNatClampNeg (bI j5)) (z_ge0 c143 hI) (z_up c143 hm)
          · refine zg_st (pc' := 184) (L' := [some (.inr 0), some (.inl (bI v1)), some (.inl x2), some (.inl (bI x3)), some (.inl x4), some (.inl v5)]) (S' := []) (M' := (mup N 16 v5.toNatClampNeg (bI j5))) rfl rfl rfl rfl ?_
            refine zg_aload_n (x := 0) dX5_tries_184 rfl ?_
            refine zg_iload (x := v5) dX5_tries_185 rfl ?_
            refine zg_aload_n (x := 0) dX5_tries_187 rfl ?_
            refine zg_getf (v := .inr 1) dX5_tries_188 zf_X5_13 rfl rfl rfl ?_
            refine zg_iload (x := x4) dX5_tries_191 rfl ?_
            refine zg_iald dX5_tries_193 rfl (by first | with_reducible exact z_hd c143 hx4 hI | with_reducible exact z_48to53 (z_hd c143 hx4 hI) | with_reducible exact z_v4 hx4) ?_
            refine zg_iconst (v := 2) dX5_tries_194 rfl ?_
            refine zg_icmpz (tgt := 202) dX5_tries_195 rfl rfl (fun c195 => ?_) (fun c195 => ?_)
            · refine zg_st (pc' := 202) (L' := [some (.inr 0), some (.inl (bI v1)), some (.inl x2), some (.inl (bI x3)), some (.inl x4), some (.inl v5)]) (S' := [.inl v5, .inr 0]) (M' := (mup N 16 v5.toNatClampNeg (bI j5))) rfl rfl rfl rfl ?_
              refine zg_iconst (v := 0) dX5_tries_202 rfl ?_
              refine zg_cVBM (As := [.inl v5, .inl 0]) (S := []) dX5_tries_203 zk_X5_124 (k_X5_tryOut q v5 false (mup N 16 v5.toNatClampNeg (bI j5)) (by first | with_reducible exact z_hd c143 hx4 hI | with_reducible exact z_48to53 (z_hd c143 hx4 hI) | with_reducible exact z_v4 hx4)) rfl rfl ⟨by decide, by decide⟩ ⟨by decide, by decide⟩ rfl (Nat.le_of_ble_eq_true rfl) (fun q7 e_q7 => ?_)
              try dsimp only
              refine zg_st (pc' := 206) (L' := [some (.inr 0), some (.inl (bI v1)), some (.inl x2), some (.inl (bI x3)), some (.inl x4), some (.inl v5)]) (S' := [.inl (bI q7.1)]) (M' := q7.2) rfl rfl rfl rfl ?_
              refine zg_ifbe (tgt := 213) dX5_tries_206 rfl (fun c206 => ?_) (fun c206 => ?_)
              · refine zg_st (pc' := 209) (L' := [some (.inr 0), some (.inl (bI v1)), some (.inl x2), some (.inl (bI x3)), some (.inl x4), some (.inl v5)]) (S' := []) (M' := q7.2) rfl rfl rfl rfl ?_
                refine zg_iconst (v := 1) dX5_tries_209 rfl ?_
                refine zg_goto (tgt := 214) dX5_tries_210 rfl ?_
                refine zg_st (pc' := 214) (L' := [some (.inr 0), some (.inl (bI v1)), some (.inl x2), some (.inl (bI x3)), some (.inl x4), some (.inl v5)]) (S' := [.inl 1]) (M' := q7.2) rfl rfl rfl rfl ?_
                refine zg_istore_n dX5_tries_214 (by decide) ?_
                refine zg_st (pc' := 215) (L' := [some (.inr 0), some (.inl 1), some (.inl x2), some (.inl (bI x3)), some (.inl x4), some (.inl v5)]) (S' := []) (M' := q7.2) rfl rfl rfl rfl ?_
                refine zg_iinc (v := (v5 + 1)) dX5_tries_215 rfl (by decide) rfl ?_
                refine zg_st (pc' := 218) (L' := [some (.inr 0), some (.inl 1), some (.inl x2), some (.inl (bI x3)), some (.inl x4), some (.inl (v5 + 1))]) (S' := []) (M' := q7.2) rfl rfl rfl rfl ?_
                refine zg_goto (tgt := 133) dX5_tries_218 rfl ?_
                refine zg_st (pc' := 133) (L' := [some (.inr 0), some (.inl 1), some (.inl x2), some (.inl (bI x3)), some (.inl x4), some (.inl (v5 + 1))]) (S' := []) (M' := q7.2) rfl rfl rfl rfl ?_
                refine zg_drop (L' := [some (.inr 0), some (.inl 1), some (.inl x2), some (.inl (bI x3)), some (.inl x4), some (.inl (v5 + 1))]) ⟨rfl, rfl, rfl, rfl, rfl, rfl, trivial⟩ ?_
                exact ih true (v5 + 1) q7.2 (z_ge0 c143 hI) (z_up c143 hm)
              · refine zg_st (pc' := 213) (L' := [some (.inr 0), some (.inl (bI v1)), some (.inl x2), some (.inl (bI x3)), some (.inl x4), some (.inl v5)]) (S' := []) (M' := q7.2) rfl rfl rfl rfl ?_
                refine zg_iconst (v := 0) dX5_tries_213 rfl ?_
                refine zg_istore_n dX5_tries_214 (by decide) ?_
                refine zg_st (pc' := 215) (L' := [some (.inr 0), some (.inl 0), some (.inl x2), some (.inl (bI x3)), some (.inl x4), some (.inl v5)]) (S' := []) (M' := q7.2) rfl rfl rfl rfl ?_
                refine zg_iinc (v := (v5 + 1)) dX5_tries_215 rfl (by decide) rfl ?_
                refine zg_st (pc' := 218) (L' := [some (.inr 0), some (.inl 0), some (.inl x2), some (.inl (bI x3)), some (.inl x4), some (.inl (v5 + 1))]) (S' := []) (M' := q7.2) rfl rfl rfl rfl ?_
                refine zg_goto (tgt := 133) dX5_tries_218 rfl ?_
                refine zg_st (pc' := 133) (L' := [some (.inr 0), some (.inl 0), some (.inl x2), some (.inl (bI x3)), some (.inl x4), some (.inl (v5 + 1))]) (S' := []) (M' := q7.2) rfl rfl rfl rfl ?_
                refine zg_drop (L' := [some (.inr 0), some (.inl 0), some (.inl x2), some (.inl (bI x3)), some (.inl x4), some (.inl (v5 + 1))]) ⟨rfl, rfl, rfl, rfl, rfl, rfl, trivial⟩ ?_
                exact ih false (v5 + 1) q7.2 (z_ge0 c143 hI) (z_up c143 hm)
            · refine zg_st (pc' := 198) (L' := [some (.inr 0), some (.inl (bI v1)), some (.inl x2), some (.inl (bI x3)), some (.inl x4), some (.inl v5)]) (S' := [.inl v5, .inr 0]) (M' := (mup N 16 v5.toNatClampNeg (bI j5))) rfl rfl rfl rfl ?_
              refine zg_iconst (v := 1) dX5_tries_198 rfl ?_
              refine zg_goto (tgt := 203) dX5_tries_199 rfl ?_
              refine zg_st (pc' := 203) (L' := [some (.inr 0), some (.inl (bI v1)), some (.inl x2), some (.inl (bI x3)), some (.inl x4), some (.inl v5)]) (S' := [.inl 1, .inl v5, .inr 0]) (M' := (mup N 16 v5.toNatClampNeg (bI j5))) rfl rfl rfl rfl ?_
              refine zg_cVBM (As := [.inl v5, .inl 1]) (S := []) dX5_tries_203 zk_X5_124 (k_X5_tryOut q v5 true (mup N 16 v5.toNatClampNeg (bI j5)) (by first | with_reducible exact z_hd c143 hx4 hI | with_reducible exact z_48to53 (z_hd c143 hx4 hI) | with_reducible exact z_v4 hx4)) rfl rfl ⟨by decide, by decide⟩ ⟨by decide, by decide⟩ rfl (Nat.le_of_ble_eq_true rfl) (fun q8 e_q8 => ?_)
              try dsimp only
              refine zg_st (pc' := 206) (L' := [some (.inr 0), some (.inl (bI v1)), some (.inl x2), some (.inl (bI x3)), some (.inl x4), some (.inl v5)]) (S' := [.inl (bI q8.1)]) (M' := q8.2) rfl rfl rfl rfl ?_
              refine zg_ifbe (tgt := 213) dX5_tries_206 rfl (fun c206 => ?_) (fun c206 => ?_)
              · refine zg_st (pc' := 209) (L' := [some (.inr 0), some (.inl (bI v1)), some (.inl x2), some (.inl (bI x3)), some (.inl x4), some (.inl v5)]) (S' := []) (M' := q8.2) rfl rfl rfl rfl ?_
                refine zg_iconst (v := 1) dX5_tries_209 rfl ?_
                refine zg_goto (tgt := 214) dX5_tries_210 rfl ?_
                refine zg_st (pc' := 214) (L' := [some (.inr 0), some (.inl (bI v1)), some (.inl x2), some (.inl (bI x3)), some (.inl x4), some (.inl v5)]) (S' := [.inl 1]) (M' := q8.2) rfl rfl rfl rfl ?_
                refine zg_istore_n dX5_tries_214 (by decide) ?_
                refine zg_st (pc' := 215) (L' := [some (.inr 0), some (.inl 1), some (.inl x2), some (.inl (bI x3)), some (.inl x4), some (.inl v5)]) (S' := []) (M' := q8.2) rfl rfl rfl rfl ?_
                refine zg_iinc (v := (v5 + 1)) dX5_tries_215 rfl (by decide) rfl ?_
                refine zg_st (pc' := 218) (L' := [some (.inr 0), some (.inl 1), some (.inl x2), some (.inl (bI x3)), some (.inl x4), some (.inl (v5 + 1))]) (S' := []) (M' := q8.2) rfl rfl rfl rfl ?_
                refine zg_goto (tgt := 133) dX5_tries_218 rfl ?_
                refine zg_st (pc' := 133) (L' := [some (.inr 0), some (.inl 1), some (.inl x2), some (.inl (bI x3)), some (.inl x4), some (.inl (v5 + 1))]) (S' := []) (M' := q8.2) rfl rfl rfl rfl ?_
                refine zg_drop (L' := [some (.inr 0), some (.inl 1), some (.inl x2), some (.inl (bI x3)), some (.inl x4), some (.inl (v5 + 1))]) ⟨rfl, rfl, rfl, rfl, rfl, rfl, trivial⟩ ?_
                exact ih true (v5 + 1) q8.2 (z_ge0 c143 hI) (z_up c143 hm)
              · refine zg_st (pc' := 213) (L' := [some (.inr 0), some (.inl (bI v1)), some (.inl x2), some (.inl (bI x3)), some (.inl x4), some (.inl v5)]) (S' := []) (M' := q8.2) rfl rfl rfl rfl ?_
                refine zg_iconst (v := 0) dX5_tries_213 rfl ?_
                refine zg_istore_n dX5_tries_214 (by decide) ?_
                refine zg_st (pc' := 215) (L' := [some (.inr 0), some (.inl 0), some (.inl x2), some (.inl (bI x3)), some (.inl x4), some (.inl v5)]) (S' := []) (M' := q8.2) rfl rfl rfl rfl ?_
                refine zg_iinc (v := (v5 + 1)) dX5_tries_215 rfl (by decide) rfl ?_
                refine zg_st (pc' := 218) (L' := [some (.inr 0), some (.inl 0), some (.inl x2), some (.inl (bI x3)), some (.inl x4), some (.inl (v5 + 1))]) (S' := []) (M' := q8.2) rfl rfl rfl rfl ?_
                refine zg_goto (tgt := 133) dX5_tries_218 rfl ?_
                refine zg_st (pc' := 133) (L' := [some (.inr 0), some (.inl 0), some (.inl x2), some (.inl (bI x3)), some (.inl x4), some (.inl (v5 + 1))]) (S' := []) (M' := q8.2) rfl rfl rfl rfl ?_
                refine zg_drop (L' := [some (.inr 0), some (.inl 0), some (.inl x2), some (.inl (bI x3)), some (.inl x4), some (.inl (v5 + 1))]) ⟨rfl, rfl, rfl, rfl, rfl, rfl, trivial⟩ ?_
                exact ih false (v5 + 1) q8.2 (z_ge0 c143 hI) (z_up c143 hm)
        · refine zg_icmpz (tgt := 171) dX5_tries_164 rfl rfl (fun c164 => ?_) (fun c164 => ?_)
          · refine zg_st (pc' := 171) (L' := [some (.inr 0), some (.inl (bI v1)), some (.inl x2), some (.inl (bI x3)), some (.inl x4), some (.inl v5)]) (S' := [.inl v5, .inr 16]) (M' := N) rfl rfl rfl rfl ?_
            refine zg_iconst (v := 0) dX5_tries_171 rfl ?_
            refine zg_drop (L' := [some (.inr 0), some (.inl (bI v1)), some (.inl x2), some (.inl (bI x3)), some (.inl x4), some (.inl v5)]) ⟨rfl, rfl, rfl, rfl, rfl, rfl, trivial⟩ ?_
            exact J6 false
          · refine zg_st (pc' := 167) (L' := [some (.inr 0), some (.inl (bI v1)), some (.inl x2), some (.inl (bI x3)), some (.inl x4), some (.inl v5)]) (S' := [.inl v5, .inr 16]) (M' := N) rfl rfl rfl rfl ?_
            refine zg_iconst (v := 1) dX5_tries_167 rfl ?_
            refine zg_goto (tgt := 172) dX5_tries_168 rfl ?_
            refine zg_st (pc' := 172) (L' := [some (.inr 0), some (.inl (bI v1)), some (.inl x2), some (.inl (bI x3)), some (.inl x4), some (.inl v5)]) (S' := [.inl 1, .inl v5, .inr 16]) (M' := N) rfl rfl rfl rfl ?_
            refine zg_drop (L' := [some (.inr 0), some (.inl (bI v1)), some (.inl x2), some (.inl (bI x3)), some (.inl x4), some (.inl v5)]) ⟨rfl, rfl, rfl, rfl, rfl, rfl, trivial⟩ ?_
            exact J6 true
      · refine zg_st (pc' := 221) (L' := [some (.inr 0), some (.inl (bI v1)), some (.inl x2), some (.inl (bI x3)), some (.inl x4), some (.inl v5)]) (S' := []) (M' := N) rfl rfl rfl rfl ?_
        refine zg_drop (L' := [some (.inr 0), some (.inl (bI v1)), some (.inl x2), some (.inl (bI x3)), some (.inl x4), some (.inl v5)]) ⟨rfl, rfl, rfl, rfl, rfl, rfl, trivial⟩ ?_
        exact hx (v1, v5, N) hI
def b_X5_tries_75 (rec : Bool → Bool → Bool → Int32 → Mem → Bool × Bool × Bool × Int32 × Mem) (v1 : Bool) (v2 : Bool) (v3 : Bool) (v4 : Int32) (N : Mem) : Bool × Bool × Bool × Int32 × Mem :=
  if 4 ≤ v4 then (v1, v2, v3, v4, N)
  else if v1 then zlet (if v3 then true
      else if (f_X5_hasData v4 N) then true
      else false) (fun (j3 : Bool) =>
    if (f_X5_isChanged v4 N) then zlet (l_X5_tries_133 1 j3 v4 (((((12 * v4) + 12) : Int32).toInt - ((12 * v4) : Int32).toInt).toNat + 1) v1 (12 * v4) (mup N 16 (48 + v4).toNatClampNeg 1)) (fun s9 =>
        if s9.1 then if (f_X5_hasData v4 s9.2.2) then zlet (f_X5_tryOut (48 + v4) true s9.2.2) (fun q10 =>
              if q10.1 then rec true true j3 (v4 + 1) q10.2
                else rec false true j3 (v4 + 1) q10.2)
            else rec true true j3 (v4 + 1) s9.2.2
          else rec false true j3 (v4 + 1) s9.2.2)
      else rec v1 v2 j3 (v4 + 1) N)
  else (v1, v2, v3, v4, N)
def l_X5_tries_75 : Nat → Bool → Bool → Bool → Int32 → Mem → Bool × Bool × Bool × Int32 × Mem
  | 0, v1, v2, v3, v4, N => (v1, v2, v3, v4, N)
  | n + 1, v1, v2, v3, v4, N => b_X5_tries_75 (l_X5_tries_75 n) v1 v2 v3 v4 N
set_option maxRecDepth 100000 in
set_option maxHeartbeats 4000000 in
theorem kl_X5_tries_75 (q : ZQ) {K : Bool × Bool × Bool × Int32 × Mem → ZR} (hx : ∀ e : Bool × Bool × Bool × Int32 × Mem, (0 : Int) ≤ e.2.2.2.1.toInt → Zg (zgM q) mX5_tries 0 0 0 0 (K e) 259 [some (.inr 0), some (.inl (bI e.1)), some (.inl (bI e.2.1)), some (.inl (bI e.2.2.1)), some (.inl e.2.2.2.1), none] [] e.2.2.2.2) :
    ∀ (n : Nat) (v1 : Bool) (v2 : Bool) (v3 : Bool) (v4 : Int32) (N : Mem), (0 : Int) ≤ v4.toInt → ((4 : Int32).toInt - (v4 : Int32).toInt).toNat < n → Zg (zgM q) mX5_tries 0 0 0 0 (zlet (l_X5_tries_75 n v1 v2 v3 v4 N) K) 75 [some (.inr 0), some (.inl (bI v1)), some (.inl (bI v2)), some (.inl (bI v3)), some (.inl v4), none] [] N := by
  intro n
  induction n with
  | zero => intro v1 v2 v3 v4 N hI hm; exact absurd hm (Nat.not_lt_zero _)
  | succ n ih =>
    intro v1 v2 v3 v4 N hI hm
    show Zg _ _ _ _ _ _ (zlet (b_X5_tries_75 (l_X5_tries_75 n) v1 v2 v3 v4 N) K) _ _ _ _
    unfold b_X5_tries_75
    refine zg_iload (x := v4) dX5_tries_75 rfl ?_
    refine zg_iconst (v := 4) dX5_tries_77 rfl ?_
    refine zg_icmpz (tgt := 259) dX5_tries_78 rfl rfl (fun c78 => ?_) (fun c78 => ?_)
    · refine zg_st (pc' := 259) (L' := [some (.inr 0), some (.inl (bI v1)), some (.inl (bI v2)), some (.inl (bI v3)), some (.inl v4), none]) (S' := []) (M' := N) rfl rfl rfl rfl ?_
      refine zg_drop (L' := [some (.inr 0), some (.inl (bI v1)), some (.inl (bI v2)), some (.inl (bI v3)), some (.inl v4), none]) ⟨rfl, rfl, rfl, rfl, rfl, trivial⟩ ?_
      exact hx (v1, v2, v3, v4, N) hI
    · refine zg_st (pc' := 81) (L' := [some (.inr 0), some (.inl (bI v1)), some (.inl (bI v2)), some (.inl (bI v3)), some (.inl v4), none]) (S' := []) (M' := N) rfl rfl rfl rfl ?_
      refine zg_iload_n (x := bI v1) dX5_tries_81 rfl ?_
      refine zg_ifbe (tgt := 259) dX5_tries_82 rfl (fun c82 => ?_) (fun c82 => ?_)
      · refine zg_st (pc' := 85) (L' := [some (.inr 0), some (.inl (bI v1)), some (.inl (bI v2)), some (.inl (bI v3)), some (.inl v4), none]) (S' := []) (M' := N) rfl rfl rfl rfl ?_
        refine zg_iload_n (x := bI v3) dX5_tries_85 rfl ?_
        refine zg_join (pc' := 103) (Lf := fun (j3 : Bool) => [some (.inr 0), some (.inl (bI v1)), some (.inl (bI v2)), some (.inl (bI v3)), some (.inl v4), none]) (Sf := fun j3 => [.inl (bI j3)]) (Mf := fun j3 => N) (fun (j3 : Bool) => ?_) (fun J4 => ?_)
        · try dsimp only
          refine zg_istore_n dX5_tries_103 (by decide) ?_
          refine zg_st (pc' := 104) (L' := [some (.inr 0), some (.inl (bI v1)), some (.inl (bI v2)), some (.inl (bI j3)), some (.inl v4), none]) (S' := []) (M' := N) rfl rfl rfl rfl ?_
          refine zg_aload_n (x := 0) dX5_tries_104 rfl ?_
          refine zg_iload (x := v4) dX5_tries_105 rfl ?_
          refine zg_cV1 (As := [.inl v4]) (S := []) (v := bI ((f_X5_isChanged v4 N))) dX5_tries_107 zk_X5_121 (k_X5_isChanged q v4 N (z_4 c78 hI)) rfl rfl ⟨by decide, by decide⟩ ⟨by decide, by decide⟩ rfl (Nat.le_of_ble_eq_true rfl) ?_
          refine zg_st (pc' := 110) (L' := [some (.inr 0), some (.inl (bI v1)), some (.inl (bI v2)), some (.inl (bI j3)), some (.inl v4), none]) (S' := [.inl (bI ((f_X5_isChanged v4 N)))]) (M' := N) rfl rfl rfl rfl ?_
          refine zg_ifbe (tgt := 253) dX5_tries_110 rfl (fun c110 => ?_) (fun c110 => ?_)
          · refine zg_st (pc' := 113) (L' := [some (.inr 0), some (.inl (bI v1)), some (.inl (bI v2)), some (.inl (bI j3)), some (.inl v4), none]) (S' := []) (M' := N) rfl rfl rfl rfl ?_
            refine zg_iconst (v := 1) dX5_tries_113 rfl ?_
            refine zg_istore_n dX5_tries_114 (by decide) ?_
            refine zg_st (pc' := 115) (L' := [some (.inr 0), some (.inl (bI v1)), some (.inl 1), some (.inl (bI j3)), some (.inl v4), none]) (S' := []) (M' := N) rfl rfl rfl rfl ?_
            refine zg_aload_n (x := 0) dX5_tries_115 rfl ?_
            refine zg_getf (v := .inr 16) dX5_tries_116 zf_X5_60 rfl rfl rfl ?_
            refine zg_bipush (v := 48) dX5_tries_119 rfl ?_
            refine zg_iload (x := v4) dX5_tries_121 rfl ?_
            refine zg_iadd dX5_tries_123 ?_
            refine zg_iconst (v := 1) dX5_tries_124 rfl ?_
            refine zg_zast (v := 1) dX5_tries_125 rfl (z_c53a (z_4 c78 hI)) rfl ?_
            refine zg_bipush (v := 12) dX5_tries_126 rfl ?_
            refine zg_iload (x := v4) dX5_tries_128 rfl ?_
            refine zg_imul dX5_tries_130 ?_
            refine zg_istore dX5_tries_131 (by decide) ?_
            refine zg_st (pc' := 133) (L' := [some (.inr 0), some (.inl (bI v1)), some (.inl 1), some (.inl (bI j3)), some (.inl v4), some (.inl (12 * v4))]) (S' := []) (M' := (mup N 16 (48 + v4).toNatClampNeg 1)) rfl rfl rfl rfl ?_
            refine zg_asc ?_
            refine zg_drop (L' := [some (.inr 0), some (.inl (bI v1)), some (.inl 1), some (.inl (bI j3)), some (.inl v4), some (.inl (12 * v4))]) ⟨rfl, rfl, rfl, rfl, rfl, rfl, trivial⟩ ?_
            refine kl_X5_tries_133 q 1 j3 v4  (z_4 c78 hI) (fun s9 hI_s9 => ?_) (((((12 * v4) + 12) : Int32).toInt - ((12 * v4) : Int32).toInt).toNat + 1) v1 (12 * v4) (mup N 16 (48 + v4).toNatClampNeg 1) (by rw [z12' (z_4 c78 hI)]; omega) (Nat.lt_succ_self _)
            try dsimp only [Sum.elim_inr]
            refine zg_st (pc' := 221) (L' := [some (.inr 0), some (.inl (bI s9.1)), some (.inl 1), some (.inl (bI j3)), some (.inl v4), some (.inl s9.2.1)]) (S' := []) (M' := s9.2.2) rfl rfl rfl rfl ?_
            refine zg_iload_n (x := bI s9.1) dX5_tries_221 rfl ?_
            refine zg_ifbe (tgt := 251) dX5_tries_222 rfl (fun c222 => ?_) (fun c222 => ?_)
            · refine zg_st (pc' := 225) (L' := [some (.inr 0), some (.inl (bI s9.1)), some (.inl 1), some (.inl (bI j3)), some (.inl v4), some (.inl s9.2.1)]) (S' := []) (M' := s9.2.2) rfl rfl rfl rfl ?_
              refine zg_aload_n (x := 0) dX5_tries_225 rfl ?_
              refine zg_iload (x := v4) dX5_tries_226 rfl ?_
              refine zg_cV1 (As := [.inl v4]) (S := []) (v := bI ((f_X5_hasData v4 s9.2.2))) dX5_tries_228 zk_X5_118 (k_X5_hasData q v4 s9.2.2 (z_4 c78 hI)) rfl rfl ⟨by decide, by decide⟩ ⟨by decide, by decide⟩ rfl (Nat.le_of_ble_eq_true rfl) ?_
              refine zg_st (pc' := 231) (L' := [some (.inr 0), some (.inl (bI s9.1)), some (.inl 1), some (.inl (bI j3)), some (.inl v4), some (.inl s9.2.1)]) (S' := [.inl (bI ((f_X5_hasData v4 s9.2.2)))]) (M' := s9.2.2) rfl rfl rfl rfl ?_
              refine zg_ifbe (tgt := 247) dX5_tries_231 rfl (fun c231 => ?_) (fun c231 => ?_)
              · refine zg_st (pc' := 234) (L' := [some (.inr 0), some (.inl (bI s9.1)), some (.inl 1), some (.inl (bI j3)), some (.inl v4), some (.inl s9.2.1)]) (S' := []) (M' := s9.2.2) rfl rfl rfl rfl ?_
                refine zg_aload_n (x := 0) dX5_tries_234 rfl ?_
                refine zg_bipush (v := 48) dX5_tries_235 rfl ?_
                refine zg_iload (x := v4) dX5_tries_237 rfl ?_
                refine zg_iadd dX5_tries_239 ?_
                refine zg_iconst (v := 1) dX5_tries_240 rfl ?_
                refine zg_cVBM (As := [.inl (48 + v4), .inl 1]) (S := []) dX5_tries_241 zk_X5_124 (k_X5_tryOut q (48 + v4) true s9.2.2 (z_c53a (z_4 c78 hI))) rfl rfl ⟨by decide, by decide⟩ ⟨by decide, by decide⟩ rfl (Nat.le_of_ble_eq_true rfl) (fun q10 e_q10 => ?_)
                try dsimp only
                refine zg_st (pc' := 244) (L' := [some (.inr 0), some (.inl (bI s9.1)), some (.inl 1), some (.inl (bI j3)), some (.inl v4), some (.inl s9.2.1)]) (S' := [.inl (bI q10.1)]) (M' := q10.2) rfl rfl rfl rfl ?_
                refine zg_ifbe (tgt := 251) dX5_tries_244 rfl (fun c244 => ?_) (fun c244 => ?_)
                · refine zg_st (pc' := 247) (L' := [some (.inr 0), some (.inl (bI s9.1)), some (.inl 1), some (.inl (bI j3)), some (.inl v4), some (.inl s9.2.1)]) (S' := []) (M' := q10.2) rfl rfl rfl rfl ?_
                  refine zg_iconst (v := 1) dX5_tries_247 rfl ?_
                  refine zg_goto (tgt := 252) dX5_tries_248 rfl ?_
                  refine zg_st (pc' := 252) (L' := [some (.inr 0), some (.inl (bI s9.1)), some (.inl 1), some (.inl (bI j3)), some (.inl v4), some (.inl s9.2.1)]) (S' := [.inl 1]) (M' := q10.2) rfl rfl rfl rfl ?_
                  refine zg_istore_n dX5_tries_252 (by decide) ?_
                  refine zg_st (pc' := 253) (L' := [some (.inr 0), some (.inl 1), some (.inl 1), some (.inl (bI j3)), some (.inl v4), some (.inl s9.2.1)]) (S' := []) (M' := q10.2) rfl rfl rfl rfl ?_
                  refine zg_iinc (v := (v4 + 1)) dX5_tries_253 rfl (by decide) rfl ?_
                  refine zg_st (pc' := 256) (L' := [some (.inr 0), some (.inl 1), some (.inl 1), some (.inl (bI j3)), some (.inl (v4 + 1)), some (.inl s9.2.1)]) (S' := []) (M' := q10.2) rfl rfl rfl rfl ?_
                  refine zg_goto (tgt := 75) dX5_tries_256 rfl ?_
                  refine zg_st (pc' := 75) (L' := [some (.inr 0), some (.inl 1), some (.inl 1), some (.inl (bI j3)), some (.inl (v4 + 1)), some (.inl s9.2.1)]) (S' := []) (M' := q10.2) rfl rfl rfl rfl ?_
                  refine zg_drop (L' := [some (.inr 0), some (.inl 1), some (.inl 1), some (.inl (bI j3)), some (.inl (v4 + 1)), none]) ⟨rfl, rfl, rfl, rfl, rfl, trivial⟩ ?_
                  exact ih true true j3 (v4 + 1) q10.2 (z_ge0 c78 hI) (z_up c78 hm)
                · refine zg_st (pc' := 251) (L' := [some (.inr 0), some (.inl (bI s9.1)), some (.inl 1), some (.inl (bI j3)), some (.inl v4), some (.inl s9.2.1)]) (S' := []) (M' := q10.2) rfl rfl rfl rfl ?_
                  refine zg_iconst (v := 0) dX5_tries_251 rfl ?_
                  refine zg_istore_n dX5_tries_252 (by decide) ?_
                  refine zg_st (pc' := 253) (L' := [some (.inr 0), some (.inl 0), some (.inl 1), some (.inl (bI j3)), some (.inl v4), some (.inl s9.2.1)]) (S' := []) (M' := q10.2) rfl rfl rfl rfl ?_
                  refine zg_iinc (v := (v4 + 1)) dX5_tries_253 rfl (by decide) rfl ?_
                  refine zg_st (pc' := 256) (L' := [some (.inr 0), some (.inl 0), some (.inl 1), some (.inl (bI j3)), some (.inl (v4 + 1)), some (.inl s9.2.1)]) (S' := []) (M' := q10.2) rfl rfl rfl rfl ?_
                  refine zg_goto (tgt := 75) dX5_tries_256 rfl ?_
                  refine zg_st (pc' := 75) (L' := [some (.inr 0), some (.inl 0), some (.inl 1), some (.inl (bI j3)), some (.inl (v4 + 1)), some (.inl s9.2.1)]) (S' := []) (M' := q10.2) rfl rfl rfl rfl ?_
                  refine zg_drop (L' := [some (.inr 0), some (.inl 0), some (.inl 1), some (.inl (bI j3)), some (.inl (v4 + 1)), none]) ⟨rfl, rfl, rfl, rfl, rfl, trivial⟩ ?_
                  exact ih false true j3 (v4 + 1) q10.2 (z_ge0 c78 hI) (z_up c78 hm)
              · refine zg_st (pc' := 247) (L' := [some (.inr 0), some (.inl (bI s9.1)), some (.inl 1), some (.inl (bI j3)), some (.inl v4), some (.inl s9.2.1)]) (S' := []) (M' := s9.2.2) rfl rfl rfl rfl ?_
                refine zg_iconst (v := 1) dX5_tries_247 rfl ?_
                refine zg_goto (tgt := 252) dX5_tries_248 rfl ?_
                refine zg_st (pc' := 252) (L' := [some (.inr 0), some (.inl (bI s9.1)), some (.inl 1), some (.inl (bI j3)), some (.inl v4), some (.inl s9.2.1)]) (S' := [.inl 1]) (M' := s9.2.2) rfl rfl rfl rfl ?_
                refine zg_istore_n dX5_tries_252 (by decide) ?_
                refine zg_st (pc' := 253) (L' := [some (.inr 0), some (.inl 1), some (.inl 1), some (.inl (bI j3)), some (.inl v4), some (.inl s9.2.1)]) (S' := []) (M' := s9.2.2) rfl rfl rfl rfl ?_
                refine zg_iinc (v := (v4 + 1)) dX5_tries_253 rfl (by decide) rfl ?_
                refine zg_st (pc' := 256) (L' := [some (.inr 0), some (.inl 1), some (.inl 1), some (.inl (bI j3)), some (.inl (v4 + 1)), some (.inl s9.2.1)]) (S' := []) (M' := s9.2.2) rfl rfl rfl rfl ?_
                refine zg_goto (tgt := 75) dX5_tries_256 rfl ?_
                refine zg_st (pc' := 75) (L' := [some (.inr 0), some (.inl 1), some (.inl 1), some (.inl (bI j3)), some (.inl (v4 + 1)), some (.inl s9.2.1)]) (S' := []) (M' := s9.2.2) rfl rfl rfl rfl ?_
                refine zg_drop (L' := [some (.inr 0), some (.inl 1), some (.inl 1), some (.inl (bI j3)), some (.inl (v4 + 1)), none]) ⟨rfl, rfl, rfl, rfl, rfl, trivial⟩ ?_
                exact ih true true j3 (v4 + 1) s9.2.2 (z_ge0 c78 hI) (z_up c78 hm)
            · refine zg_st (pc' := 251) (L' := [some (.inr 0), some (.inl (bI s9.1)), some (.inl 1), some (.inl (bI j3)), some (.inl v4), some (.inl s9.2.1)]) (S' := []) (M' := s9.2.2) rfl rfl rfl rfl ?_
              refine zg_iconst (v := 0) dX5_tries_251 rfl ?_
              refine zg_istore_n dX5_tries_252 (by decide) ?_
              refine zg_st (pc' := 253) (L' := [some (.inr 0), some (.inl 0), some (.inl 1), some (.inl (bI j3)), some (.inl v4), some (.inl s9.2.1)]) (S' := []) (M' := s9.2.2) rfl rfl rfl rfl ?_
              refine zg_iinc (v := (v4 + 1)) dX5_tries_253 rfl (by decide) rfl ?_
              refine zg_st (pc' := 256) (L' := [some (.inr 0), some (.inl 0), some (.inl 1), some (.inl (bI j3)), some (.inl (v4 + 1)), some (.inl s9.2.1)]) (S' := []) (M' := s9.2.2) rfl rfl rfl rfl ?_
              refine zg_goto (tgt := 75) dX5_tries_256 rfl ?_
              refine zg_st (pc' := 75) (L' := [some (.inr 0), some (.inl 0), some (.inl 1), some (.inl (bI j3)), some (.inl (v4 + 1)), some (.inl s9.2.1)]) (S' := []) (M' := s9.2.2) rfl rfl rfl rfl ?_
              refine zg_drop (L' := [some (.inr 0), some (.inl 0), some (.inl 1), some (.inl (bI j3)), some (.inl (v4 + 1)), none]) ⟨rfl, rfl, rfl, rfl, rfl, trivial⟩ ?_
              exact ih false true j3 (v4 + 1) s9.2.2 (z_ge0 c78 hI) (z_up c78 hm)
          · refine zg_st (pc' := 253) (L' := [some (.inr 0), some (.inl (bI v1)), some (.inl (bI v2)), some (.inl (bI j3)), some (.inl v4), none]) (S' := []) (M' := N) rfl rfl rfl rfl ?_
            refine zg_iinc (v := (v4 + 1)) dX5_tries_253 rfl (by decide) rfl ?_
            refine zg_st (pc' := 256) (L' := [some (.inr 0), some (.inl (bI v1)), some (.inl (bI v2)), some (.inl (bI j3)), some (.inl (v4 + 1)), none]) (S' := []) (M' := N) rfl rfl rfl rfl ?_
            refine zg_goto (tgt := 75) dX5_tries_256 rfl ?_
            refine zg_st (pc' := 75) (L' := [some (.inr 0), some (.inl (bI v1)), some (.inl (bI v2)), some (.inl (bI j3)), some (.inl (v4 + 1)), none]) (S' := []) (M' := N) rfl rfl rfl rfl ?_
            refine zg_drop (L' := [some (.inr 0), some (.inl (bI v1)), some (.inl (bI v2)), some (.inl (bI j3)), some (.inl (v4 + 1)), none]) ⟨rfl, rfl, rfl, rfl, rfl, trivial⟩ ?_
            exact ih v1 v2 j3 (v4 + 1) N (z_ge0 c78 hI) (z_up c78 hm)
        · refine zg_ifbn (tgt := 98) dX5_tries_86 rfl (fun c86 => ?_) (fun c86 => ?_)
          · refine zg_st (pc' := 98) (L' := [some (.inr 0), some (.inl (bI v1)), some (.inl (bI v2)), some (.inl (bI v3)), some (.inl v4), none]) (S' := []) (M' := N) rfl rfl rfl rfl ?_
            refine zg_iconst (v := 1) dX5_tries_98 rfl ?_
            refine zg_goto (tgt := 103) dX5_tries_99 rfl ?_
            refine zg_st (pc' := 103) (L' := [some (.inr 0), some (.inl (bI v1)), some (.inl (bI v2)), some (.inl (bI v3)), some (.inl v4), none]) (S' := [.inl 1]) (M' := N) rfl rfl rfl rfl ?_
            refine zg_drop (L' := [some (.inr 0), some (.inl (bI v1)), some (.inl (bI v2)), some (.inl (bI v3)), some (.inl v4), none]) ⟨rfl, rfl, rfl, rfl, rfl, trivial⟩ ?_
            exact J4 true
          · refine zg_st (pc' := 89) (L' := [some (.inr 0), some (.inl (bI v1)), some (.inl (bI v2)), some (.inl (bI v3)), some (.inl v4), none]) (S' := []) (M' := N) rfl rfl rfl rfl ?_
            refine zg_aload_n (x := 0) dX5_tries_89 rfl ?_
            refine zg_iload (x := v4) dX5_tries_90 rfl ?_
            refine zg_cV1 (As := [.inl v4]) (S := []) (v := bI ((f_X5_hasData v4 N))) dX5_tries_92 zk_X5_118 (k_X5_hasData q v4 N (z_4 c78 hI)) rfl rfl ⟨by decide, by decide⟩ ⟨by decide, by decide⟩ rfl (Nat.le_of_ble_eq_true rfl) ?_
            refine zg_st (pc' := 95) (L' := [some (.inr 0), some (.inl (bI v1)), some (.inl (bI v2)), some (.inl (bI v3)), some (.inl v4), none]) (S' := [.inl (bI ((f_X5_hasData v4 N)))]) (M' := N) rfl rfl rfl rfl ?_
            refine zg_ifbe (tgt := 102) dX5_tries_95 rfl (fun c95 => ?_) (fun c95 => ?_)
            · refine zg_st (pc' := 98) (L' := [some (.inr 0), some (.inl (bI v1)), some (.inl (bI v2)), some (.inl (bI v3)), some (.inl v4), none]) (S' := []) (M' := N) rfl rfl rfl rfl ?_
              refine zg_iconst (v := 1) dX5_tries_98 rfl ?_
              refine zg_goto (tgt := 103) dX5_tries_99 rfl ?_
              refine zg_st (pc' := 103) (L' := [some (.inr 0), some (.inl (bI v1)), some (.inl (bI v2)), some (.inl (bI v3)), some (.inl v4), none]) (S' := [.inl 1]) (M' := N) rfl rfl rfl rfl ?_
              refine zg_drop (L' := [some (.inr 0), some (.inl (bI v1)), some (.inl (bI v2)), some (.inl (bI v3)), some (.inl v4), none]) ⟨rfl, rfl, rfl, rfl, rfl, trivial⟩ ?_
              exact J4 true
            · refine zg_st (pc' := 102) (L' := [some (.inr 0), some (.inl (bI v1)), some (.inl (bI v2)), some (.inl (bI v3)), some (.inl v4), none]) (S' := []) (M' := N) rfl rfl rfl rfl ?_
              refine zg_iconst (v := 0) dX5_tries_102 rfl ?_
              refine zg_drop (L' := [some (.inr 0), some (.inl (bI v1)), some (.inl (bI v2)), some (.inl (bI v3)), some (.inl v4), none]) ⟨rfl, rfl, rfl, rfl, rfl, trivial⟩ ?_
              exact J4 false
      · refine zg_st (pc' := 259) (L' := [some (.inr 0), some (.inl (bI v1)), some (.inl (bI v2)), some (.inl (bI v3)), some (.inl v4), none]) (S' := []) (M' := N) rfl rfl rfl rfl ?_
        refine zg_drop (L' := [some (.inr 0), some (.inl (bI v1)), some (.inl (bI v2)), some (.inl (bI v3)), some (.inl v4), none]) ⟨rfl, rfl, rfl, rfl, rfl, trivial⟩ ?_
        exact hx (v1, v2, v3, v4, N) hI
def f_X5_tries (M : Mem) : (Bool × Mem) :=
  zlet (l_X5_tries_7 121 0 (mup M 0 19 0)) (fun s1 =>
  zlet (l_X5_tries_33 54 0 s1.2) (fun s2 =>
    zlet (l_X5_tries_75 5 true false false 0 s2.2) (fun s11 =>
      if s11.1 then if s11.2.1 then if s11.2.2.1 then zlet (f_X5_tryOut 52 true (mup s11.2.2.2.2 16 (52 : Int32).toNatClampNeg (bI s11.2.1))) (fun q12 =>
              if q12.1 then (true, q12.2)
                else (false, q12.2))
            else (true, (mup s11.2.2.2.2 16 (52 : Int32).toNatClampNeg (bI s11.2.1)))
          else (true, (mup s11.2.2.2.2 16 (52 : Int32).toNatClampNeg (bI s11.2.1)))
        else (false, (mup s11.2.2.2.2 16 (52 : Int32).toNatClampNeg (bI s11.2.1))))))
set_option maxRecDepth 100000 in
set_option maxHeartbeats 4000000 in
theorem k_X5_tries (q : ZQ) (M : Mem) : Zc (zgM q) mX5_tries 0 0 [.inr 0] M (wBM (f_X5_tries M)) := by
  refine Zc.of (by decide) zi_X5_tries.1 (Nat.le_of_ble_eq_true rfl) rfl ?_
  show Zg _ _ _ _ _ _ (zlet (f_X5_tries M) wBM) _ _ _ _
  unfold f_X5_tries
  refine zg_aload_n (x := 0) dX5_tries_0 rfl ?_
  refine zg_iconst (v := 0) dX5_tries_1 rfl ?_
  refine zg_putf dX5_tries_2 zp_X5_112 rfl rfl ?_
  refine zg_iconst (v := 0) dX5_tries_5 rfl ?_
  refine zg_istore_n dX5_tries_6 (by decide) ?_
  refine zg_st (pc' := 7) (L' := [some (.inr 0), some (.inl 0), none, none, none, none]) (S' := []) (M' := (mup M 0 19 0)) rfl rfl rfl rfl ?_
  refine zg_asc ?_
  refine zg_drop (L' := [some (.inr 0), some (.inl 0), none, none, none, none]) ⟨rfl, rfl, trivial⟩ ?_
  refine kl_X5_tries_7 q  (fun s1 hI_s1 => ?_) 121 0 (mup M 0 19 0) (by decide) (by decide)
  try dsimp only [Sum.elim_inr]
  refine zg_st (pc' := 31) (L' := [some (.inr 0), some (.inl s1.1), none, none, none, none]) (S' := []) (M' := s1.2) rfl rfl rfl rfl ?_
  refine zg_iconst (v := 0) dX5_tries_31 rfl ?_
  refine zg_istore_n dX5_tries_32 (by decide) ?_
  refine zg_st (pc' := 33) (L' := [some (.inr 0), some (.inl 0), none, none, none, none]) (S' := []) (M' := s1.2) rfl rfl rfl rfl ?_
  refine zg_asc ?_
  refine zg_drop (L' := [some (.inr 0), some (.inl 0), none, none, none, none]) ⟨rfl, rfl, trivial⟩ ?_
  refine kl_X5_tries_33 q  (fun s2 hI_s2 => ?_) 54 0 s1.2 (by decide) (by decide)
  try dsimp only [Sum.elim_inr]
  refine zg_st (pc' := 66) (L' := [some (.inr 0), some (.inl s2.1), none, none, none, none]) (S' := []) (M' := s2.2) rfl rfl rfl rfl ?_
  refine zg_iconst (v := 1) dX5_tries_66 rfl ?_
  refine zg_istore_n dX5_tries_67 (by decide) ?_
  refine zg_st (pc' := 68) (L' := [some (.inr 0), some (.inl 1), none, none, none, none]) (S' := []) (M' := s2.2) rfl rfl rfl rfl ?_
  refine zg_iconst (v := 0) dX5_tries_68 rfl ?_
  refine zg_istore_n dX5_tries_69 (by decide) ?_
  refine zg_st (pc' := 70) (L' := [some (.inr 0), some (.inl 1), some (.inl 0), none, none, none]) (S' := []) (M' := s2.2) rfl rfl rfl rfl ?_
  refine zg_iconst (v := 0) dX5_tries_70 rfl ?_
  refine zg_istore_n dX5_tries_71 (by decide) ?_
  refine zg_st (pc' := 72) (L' := [some (.inr 0), some (.inl 1), some (.inl 0), some (.inl 0), none, none]) (S' := []) (M' := s2.2) rfl rfl rfl rfl ?_
  refine zg_iconst (v := 0) dX5_tries_72 rfl ?_
  refine zg_istore dX5_tries_73 (by decide) ?_
  refine zg_st (pc' := 75) (L' := [some (.inr 0), some (.inl 1), some (.inl 0), some (.inl 0), some (.inl 0), none]) (S' := []) (M' := s2.2) rfl rfl rfl rfl ?_
  refine zg_asc ?_
  refine zg_drop (L' := [some (.inr 0), some (.inl 1), some (.inl 0), some (.inl 0), some (.inl 0), none]) ⟨rfl, rfl, rfl, rfl, rfl, trivial⟩ ?_
  refine kl_X5_tries_75 q  (fun s11 hI_s11 => ?_) 5 true false false 0 s2.2 (by decide) (by decide)
  try dsimp only [Sum.elim_inr]
  refine zg_st (pc' := 259) (L' := [some (.inr 0), some (.inl (bI s11.1)), some (.inl (bI s11.2.1)), some (.inl (bI s11.2.2.1)), some (.inl s11.2.2.2.1), none]) (S' := []) (M' := s11.2.2.2.2) rfl rfl rfl rfl ?_
  refine zg_aload_n (x := 0) dX5_tries_259 rfl ?_
  refine zg_getf (v := .inr 16) dX5_tries_260 zf_X5_60 rfl rfl rfl ?_
  refine zg_bipush (v := 52) dX5_tries_263 rfl ?_
  refine zg_iload_n (x := bI s11.2.1) dX5_tries_265 rfl ?_
  refine zg_zast (v := bI s11.2.1) dX5_tries_266 rfl z_52 (bI_vp _) ?_
  refine zg_iload_n (x := bI s11.1) dX5_tries_267 rfl ?_
  refine zg_ifbe (tgt := 293) dX5_tries_268 rfl (fun c268 => ?_) (fun c268 => ?_)
  · refine zg_st (pc' := 271) (L' := [some (.inr 0), some (.inl (bI s11.1)), some (.inl (bI s11.2.1)), some (.inl (bI s11.2.2.1)), some (.inl s11.2.2.2.1), none]) (S' := []) (M' := (mup s11.2.2.2.2 16 (52 : Int32).toNatClampNeg (bI s11.2.1))) rfl rfl rfl rfl ?_
    refine zg_iload_n (x := bI s11.2.1) dX5_tries_271 rfl ?_
    refine zg_ifbe (tgt := 289) dX5_tries_272 rfl (fun c272 => ?_) (fun c272 => ?_)
    · refine zg_st (pc' := 275) (L' := [some (.inr 0), some (.inl (bI s11.1)), some (.inl (bI s11.2.1)), some (.inl (bI s11.2.2.1)), some (.inl s11.2.2.2.1), none]) (S' := []) (M' := (mup s11.2.2.2.2 16 (52 : Int32).toNatClampNeg (bI s11.2.1))) rfl rfl rfl rfl ?_
      refine zg_iload_n (x := bI s11.2.2.1) dX5_tries_275 rfl ?_
      refine zg_ifbe (tgt := 289) dX5_tries_276 rfl (fun c276 => ?_) (fun c276 => ?_)
      · refine zg_st (pc' := 279) (L' := [some (.inr 0), some (.inl (bI s11.1)), some (.inl (bI s11.2.1)), some (.inl (bI s11.2.2.1)), some (.inl s11.2.2.2.1), none]) (S' := []) (M' := (mup s11.2.2.2.2 16 (52 : Int32).toNatClampNeg (bI s11.2.1))) rfl rfl rfl rfl ?_
        refine zg_aload_n (x := 0) dX5_tries_279 rfl ?_
        refine zg_bipush (v := 52) dX5_tries_280 rfl ?_
        refine zg_iconst (v := 1) dX5_tries_282 rfl ?_
        refine zg_cVBM (As := [.inl 52, .inl 1]) (S := []) dX5_tries_283 zk_X5_124 (k_X5_tryOut q 52 true (mup s11.2.2.2.2 16 (52 : Int32).toNatClampNeg (bI s11.2.1)) z_52) rfl rfl ⟨by decide, by decide⟩ ⟨by decide, by decide⟩ rfl (Nat.le_of_ble_eq_true rfl) (fun q12 e_q12 => ?_)
        try dsimp only
        refine zg_st (pc' := 286) (L' := [some (.inr 0), some (.inl (bI s11.1)), some (.inl (bI s11.2.1)), some (.inl (bI s11.2.2.1)), some (.inl s11.2.2.2.1), none]) (S' := [.inl (bI q12.1)]) (M' := q12.2) rfl rfl rfl rfl ?_
        refine zg_ifbe (tgt := 293) dX5_tries_286 rfl (fun c286 => ?_) (fun c286 => ?_)
        · refine zg_st (pc' := 289) (L' := [some (.inr 0), some (.inl (bI s11.1)), some (.inl (bI s11.2.1)), some (.inl (bI s11.2.2.1)), some (.inl s11.2.2.2.1), none]) (S' := []) (M' := q12.2) rfl rfl rfl rfl ?_
          refine zg_iconst (v := 1) dX5_tries_289 rfl ?_
          refine zg_goto (tgt := 294) dX5_tries_290 rfl ?_
          refine zg_st (pc' := 294) (L' := [some (.inr 0), some (.inl (bI s11.1)), some (.inl (bI s11.2.1)), some (.inl (bI s11.2.2.1)), some (.inl s11.2.2.2.1), none]) (S' := [.inl 1]) (M' := q12.2) rfl rfl rfl rfl ?_
          exact zg_iret dX5_tries_294 rfl rfl ⟨by decide, by decide⟩ rfl
        · refine zg_st (pc' := 293) (L' := [some (.inr 0), some (.inl (bI s11.1)), some (.inl (bI s11.2.1)), some (.inl (bI s11.2.2.1)), some (.inl s11.2.2.2.1), none]) (S' := []) (M' := q12.2) rfl rfl rfl rfl ?_
          refine zg_iconst (v := 0) dX5_tries_293 rfl ?_
          exact zg_iret dX5_tries_294 rfl rfl ⟨by decide, by decide⟩ rfl
      · refine zg_st (pc' := 289) (L' := [some (.inr 0), some (.inl (bI s11.1)), some (.inl (bI s11.2.1)), some (.inl (bI s11.2.2.1)), some (.inl s11.2.2.2.1), none]) (S' := []) (M' := (mup s11.2.2.2.2 16 (52 : Int32).toNatClampNeg (bI s11.2.1))) rfl rfl rfl rfl ?_
        refine zg_iconst (v := 1) dX5_tries_289 rfl ?_
        refine zg_goto (tgt := 294) dX5_tries_290 rfl ?_
        refine zg_st (pc' := 294) (L' := [some (.inr 0), some (.inl (bI s11.1)), some (.inl (bI s11.2.1)), some (.inl (bI s11.2.2.1)), some (.inl s11.2.2.2.1), none]) (S' := [.inl 1]) (M' := (mup s11.2.2.2.2 16 (52 : Int32).toNatClampNeg (bI s11.2.1))) rfl rfl rfl rfl ?_
        exact zg_iret dX5_tries_294 rfl rfl ⟨by decide, by decide⟩ rfl
    · refine zg_st (pc' := 289) (L' := [some (.inr 0), some (.inl (bI s11.1)), some (.inl (bI s11.2.1)), some (.inl (bI s11.2.2.1)), some (.inl s11.2.2.2.1), none]) (S' := []) (M' := (mup s11.2.2.2.2 16 (52 : Int32).toNatClampNeg (bI s11.2.1))) rfl rfl rfl rfl ?_
      refine zg_iconst (v := 1) dX5_tries_289 rfl ?_
      refine zg_goto (tgt := 294) dX5_tries_290 rfl ?_
      refine zg_st (pc' := 294) (L' := [some (.inr 0), some (.inl (bI s11.1)), some (.inl (bI s11.2.1)), some (.inl (bI s11.2.2.1)), some (.inl s11.2.2.2.1), none]) (S' := [.inl 1]) (M' := (mup s11.2.2.2.2 16 (52 : Int32).toNatClampNeg (bI s11.2.1))) rfl rfl rfl rfl ?_
      exact zg_iret dX5_tries_294 rfl rfl ⟨by decide, by decide⟩ rfl
  · refine zg_st (pc' := 293) (L' := [some (.inr 0), some (.inl (bI s11.1)), some (.inl (bI s11.2.1)), some (.inl (bI s11.2.2.1)), some (.inl s11.2.2.2.1), none]) (S' := []) (M' := (mup s11.2.2.2.2 16 (52 : Int32).toNatClampNeg (bI s11.2.1))) rfl rfl rfl rfl ?_
    refine zg_iconst (v := 0) dX5_tries_293 rfl ?_
    exact zg_iret dX5_tries_294 rfl rfl ⟨by decide, by decide⟩ rfl
