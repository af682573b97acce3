theorem dX5_in_0 : decode cX5_in 0 = .ok (.iload_n 0, 1) := by decide +kernel
theorem dX5_in_1 : decode cX5_in 1 = .ok (.iload_n 1, 1) := by decide +kernel
theorem dX5_in_2 : decode cX5_in 2 = .ok (.if_icmp .lt 12, 3) := by decide +kernel
theorem dX5_in_5 : decode cX5_in 5 = .ok (.iload_n 0, 1) := by decide +kernel
theorem dX5_in_6 : decode cX5_in 6 = .ok (.iload_n 2, 1) := by decide +kernel
theorem dX5_in_7 : decode cX5_in 7 = .ok (.if_icmp .gt 7, 3) := by decide +kernel
theorem dX5_in_10 : decode cX5_in 10 = .ok (.iconst 1, 1) := by decide +kernel
theorem dX5_in_11 : decode cX5_in 11 = .ok (.goto 4, 3) := by decide +kernel
theorem dX5_in_14 : decode cX5_in 14 = .ok (.iconst 0, 1) := by decide +kernel
theorem dX5_in_15 : decode cX5_in 15 = .ok (.ireturn, 1) := by decide +kernel
def f_X5_in (p0 : Int32) (p1 : Int32) (p2 : Int32) : Bool :=
  if p0 < p1 then false
  else if p2 < p0 then false
  else true
set_option maxRecDepth 100000 in
set_option maxHeartbeats 4000000 in
theorem k_X5_in (q : ZQ) (p0 : Int32) (p1 : Int32) (p2 : Int32) (M : Mem) : Zc (zgM q) mX5_in 0 0 [.inl p0, .inl p1, .inl p2] M (wB M (f_X5_in p0 p1 p2)) := by
  refine Zc.of (by decide) zi_X5_in.1 (Nat.le_of_ble_eq_true rfl) rfl ?_
  show Zg _ _ _ _ _ _ (zlet (f_X5_in p0 p1 p2) (wB M)) _ _ _ _
  unfold f_X5_in
  refine zg_iload_n (x := p0) dX5_in_0 rfl ?_
  refine zg_iload_n (x := p1) dX5_in_1 rfl ?_
  refine zg_icmpz (tgt := 14) dX5_in_2 rfl rfl (fun c2 => ?_) (fun c2 => ?_)
  · refine zg_st (pc' := 14) (L' := [some (.inl p0), some (.inl p1), some (.inl p2)]) (S' := []) (M' := M) rfl rfl rfl rfl ?_
    refine zg_iconst (v := 0) dX5_in_14 rfl ?_
    exact zg_iret dX5_in_15 rfl rfl ⟨by decide, by decide⟩ rfl
  · refine zg_st (pc' := 5) (L' := [some (.inl p0), some (.inl p1), some (.inl p2)]) (S' := []) (M' := M) rfl rfl rfl rfl ?_
    refine zg_iload_n (x := p0) dX5_in_5 rfl ?_
    refine zg_iload_n (x := p2) dX5_in_6 rfl ?_
    refine zg_icmpz (tgt := 14) dX5_in_7 rfl rfl (fun c7 => ?_) (fun c7 => ?_)
    · refine zg_st (pc' := 14) (L' := [some (.inl p0), some (.inl p1), some (.inl p2)]) (S' := []) (M' := M) rfl rfl rfl rfl ?_
      refine zg_iconst (v := 0) dX5_in_14 rfl ?_
      exact zg_iret dX5_in_15 rfl rfl ⟨by decide, by decide⟩ rfl
    · refine zg_st (pc' := 10) (L' := [some (.inl p0), some (.inl p1), some (.inl p2)]) (S' := []) (M' := M) rfl rfl rfl rfl ?_
      refine zg_iconst (v := 1) dX5_in_10 rfl ?_
      refine zg_goto (tgt := 15) dX5_in_11 rfl ?_
      refine zg_st (pc' := 15) (L' := [some (.inl p0), some (.inl p1), some (.inl p2)]) (S' := [.inl 1]) (M' := M) rfl rfl rfl rfl ?_
      exact zg_iret dX5_in_15 rfl rfl ⟨by decide, by decide⟩ rfl
theorem dX5_isBlock_0 : decode cX5_isBlock 0 = .ok (.iload_n 0, 1) := by decide +kernel
theorem dX5_isBlock_1 : decode cX5_isBlock 1 = .ok (.iconst 0, 1) := by decide +kernel
theorem dX5_isBlock_2 : decode cX5_isBlock 2 = .ok (.iconst 3, 1) := by decide +kernel
theorem dX5_isBlock_3 : decode cX5_isBlock 3 = .ok (.invokestatic 66, 3) := by decide +kernel
theorem dX5_isBlock_6 : decode cX5_isBlock 6 = .ok (.ifCond .eq 17, 3) := by decide +kernel
theorem dX5_isBlock_9 : decode cX5_isBlock 9 = .ok (.iload_n 1, 1) := by decide +kernel
theorem dX5_isBlock_10 : decode cX5_isBlock 10 = .ok (.iconst 0, 1) := by decide +kernel
theorem dX5_isBlock_11 : decode cX5_isBlock 11 = .ok (.bipush 11, 2) := by decide +kernel
theorem dX5_isBlock_13 : decode cX5_isBlock 13 = .ok (.invokestatic 66, 3) := by decide +kernel
theorem dX5_isBlock_16 : decode cX5_isBlock 16 = .ok (.ifCond .eq 7, 3) := by decide +kernel
theorem dX5_isBlock_19 : decode cX5_isBlock 19 = .ok (.iconst 1, 1) := by decide +kernel
theorem dX5_isBlock_20 : decode cX5_isBlock 20 = .ok (.goto 4, 3) := by decide +kernel
theorem dX5_isBlock_23 : decode cX5_isBlock 23 = .ok (.iconst 0, 1) := by decide +kernel
theorem dX5_isBlock_24 : decode cX5_isBlock 24 = .ok (.ireturn, 1) := by decide +kernel
def f_X5_isBlock (p0 : Int32) (p1 : Int32) : Bool :=
  if (f_X5_in p0 0 3) then if (f_X5_in p1 0 11) then true
    else false
  else false
set_option maxRecDepth 100000 in
set_option maxHeartbeats 4000000 in
theorem k_X5_isBlock (q : ZQ) (p0 : Int32) (p1 : Int32) (M : Mem) : Zc (zgM q) mX5_isBlock 0 0 [.inl p0, .inl p1] M (wB M (f_X5_isBlock p0 p1)) := by
  refine Zc.of (by decide) zi_X5_isBlock.1 (Nat.le_of_ble_eq_true rfl) rfl ?_
  show Zg _ _ _ _ _ _ (zlet (f_X5_isBlock p0 p1) (wB M)) _ _ _ _
  unfold f_X5_isBlock
  refine zg_iload_n (x := p0) dX5_isBlock_0 rfl ?_
  refine zg_iconst (v := 0) dX5_isBlock_1 rfl ?_
  refine zg_iconst (v := 3) dX5_isBlock_2 rfl ?_
  refine zg_cS1 (As := [.inl p0, .inl 0, .inl 3]) (S := []) (v := bI ((f_X5_in p0 0 3))) dX5_isBlock_3 zk_X5_66 (k_X5_in q p0 0 3 M) rfl ⟨by decide, by decide⟩ ⟨by decide, by decide⟩ rfl (Nat.le_of_ble_eq_true rfl) ?_
  refine zg_st (pc' := 6) (L' := [some (.inl p0), some (.inl p1)]) (S' := [.inl (bI ((f_X5_in p0 0 3)))]) (M' := M) rfl rfl rfl rfl ?_
  refine zg_ifbe (tgt := 23) dX5_isBlock_6 rfl (fun c6 => ?_) (fun c6 => ?_)
  · refine zg_st (pc' := 9) (L' := [some (.inl p0), some (.inl p1)]) (S' := []) (M' := M) rfl rfl rfl rfl ?_
    refine zg_iload_n (x := p1) dX5_isBlock_9 rfl ?_
    refine zg_iconst (v := 0) dX5_isBlock_10 rfl ?_
    refine zg_bipush (v := 11) dX5_isBlock_11 rfl ?_
    refine zg_cS1 (As := [.inl p1, .inl 0, .inl 11]) (S := []) (v := bI ((f_X5_in p1 0 11))) dX5_isBlock_13 zk_X5_66 (k_X5_in q p1 0 11 M) rfl ⟨by decide, by decide⟩ ⟨by decide, by decide⟩ rfl (Nat.le_of_ble_eq_true rfl) ?_
    refine zg_st (pc' := 16) (L' := [some (.inl p0), some (.inl p1)]) (S' := [.inl (bI ((f_X5_in p1 0 11)))]) (M' := M) rfl rfl rfl rfl ?_
    refine zg_ifbe (tgt := 23) dX5_isBlock_16 rfl (fun c16 => ?_) (fun c16 => ?_)
    · refine zg_st (pc' := 19) (L' := [some (.inl p0), some (.inl p1)]) (S' := []) (M' := M) rfl rfl rfl rfl ?_
      refine zg_iconst (v := 1) dX5_isBlock_19 rfl ?_
      refine zg_goto (tgt := 24) dX5_isBlock_20 rfl ?_
      refine zg_st (pc' := 24) (L' := [some (.inl p0), some (.inl p1)]) (S' := [.inl 1]) (M' := M) rfl rfl rfl rfl ?_
      exact zg_iret dX5_isBlock_24 rfl rfl ⟨by decide, by decide⟩ rfl
    · refine zg_st (pc' := 23) (L' := [some (.inl p0), some (.inl p1)]) (S' := []) (M' := M) rfl rfl rfl rfl ?_
      refine zg_iconst (v := 0) dX5_isBlock_23 rfl ?_
      exact zg_iret dX5_isBlock_24 rfl rfl ⟨by decide, by decide⟩ rfl
  · refine zg_st (pc' := 23) (L' := [some (.inl p0), some (.inl p1)]) (S' := []) (M' := M) rfl rfl rfl rfl ?_
    refine zg_iconst (v := 0) dX5_isBlock_23 rfl ?_
    exact zg_iret dX5_isBlock_24 rfl rfl ⟨by decide, by decide⟩ rfl
theorem dX5_refused_0 : decode cX5_refused 0 = .ok (.aload_n 0, 1) := by decide +kernel
theorem dX5_refused_1 : decode cX5_refused 1 = .ok (.iload_n 1, 1) := by decide +kernel
theorem dX5_refused_2 : decode cX5_refused 2 = .ok (.putfield 63, 3) := by decide +kernel
theorem dX5_refused_5 : decode cX5_refused 5 = .ok (.iload_n 1, 1) := by decide +kernel
theorem dX5_refused_6 : decode cX5_refused 6 = .ok (.ifCond .eq 7, 3) := by decide +kernel
theorem dX5_refused_9 : decode cX5_refused 9 = .ok (.iconst 1, 1) := by decide +kernel
theorem dX5_refused_10 : decode cX5_refused 10 = .ok (.goto 4, 3) := by decide +kernel
theorem dX5_refused_13 : decode cX5_refused 13 = .ok (.iconst 0, 1) := by decide +kernel
theorem dX5_refused_14 : decode cX5_refused 14 = .ok (.ireturn, 1) := by decide +kernel
def f_X5_refused (p1 : Int32) (M : Mem) : (Bool × Mem) :=
  if p1 = 0 then (false, (mup M 0 0 p1))
  else (true, (mup M 0 0 p1))
set_option maxRecDepth 100000 in
set_option maxHeartbeats 4000000 in
theorem k_X5_refused (q : ZQ) (p1 : Int32) (M : Mem) : Zc (zgM q) mX5_refused 0 0 [.inr 0, .inl p1] M (wBM (f_X5_refused p1 M)) := by
  refine Zc.of (by decide) zi_X5_refused.1 (Nat.le_of_ble_eq_true rfl) rfl ?_
  show Zg _ _ _ _ _ _ (zlet (f_X5_refused p1 M) wBM) _ _ _ _
  unfold f_X5_refused
  refine zg_aload_n (x := 0) dX5_refused_0 rfl ?_
  refine zg_iload_n (x := p1) dX5_refused_1 rfl ?_
  refine zg_putf dX5_refused_2 zp_X5_63 rfl rfl ?_
  refine zg_iload_n (x := p1) dX5_refused_5 rfl ?_
  refine zg_ifz (tgt := 13) dX5_refused_6 rfl rfl (fun c6 => ?_) (fun c6 => ?_)
  · refine zg_st (pc' := 13) (L' := [some (.inr 0), some (.inl p1)]) (S' := []) (M' := (mup M 0 0 p1)) rfl rfl rfl rfl ?_
    refine zg_iconst (v := 0) dX5_refused_13 rfl ?_
    exact zg_iret dX5_refused_14 rfl rfl ⟨by decide, by decide⟩ rfl
  · refine zg_st (pc' := 9) (L' := [some (.inr 0), some (.inl p1)]) (S' := []) (M' := (mup M 0 0 p1)) rfl rfl rfl rfl ?_
    refine zg_iconst (v := 1) dX5_refused_9 rfl ?_
    refine zg_goto (tgt := 14) dX5_refused_10 rfl ?_
    refine zg_st (pc' := 14) (L' := [some (.inr 0), some (.inl p1)]) (S' := [.inl 1]) (M' := (mup M 0 0 p1)) rfl rfl rfl rfl ?_
    exact zg_iret dX5_refused_14 rfl rfl ⟨by decide, by decide⟩ rfl
theorem dX5_now_0 : decode cX5_now 0 = .ok (.aload_n 0, 1) := by decide +kernel
theorem dX5_now_1 : decode cX5_now 1 = .ok (.getfield 20, 3) := by decide +kernel
theorem dX5_now_4 : decode cX5_now 4 = .ok (.iload_n 1, 1) := by decide +kernel
theorem dX5_now_5 : decode cX5_now 5 = .ok (.iaload, 1) := by decide +kernel
theorem dX5_now_6 : decode cX5_now 6 = .ok (.iconst (-1), 1) := by decide +kernel
theorem dX5_now_7 : decode cX5_now 7 = .ok (.if_icmp .ne 12, 3) := by decide +kernel
theorem dX5_now_10 : decode cX5_now 10 = .ok (.aload_n 0, 1) := by decide +kernel
theorem dX5_now_11 : decode cX5_now 11 = .ok (.getfield 17, 3) := by decide +kernel
theorem dX5_now_14 : decode cX5_now 14 = .ok (.iload_n 1, 1) := by decide +kernel
theorem dX5_now_15 : decode cX5_now 15 = .ok (.iaload, 1) := by decide +kernel
theorem dX5_now_16 : decode cX5_now 16 = .ok (.goto 9, 3) := by decide +kernel
theorem dX5_now_19 : decode cX5_now 19 = .ok (.aload_n 0, 1) := by decide +kernel
theorem dX5_now_20 : decode cX5_now 20 = .ok (.getfield 20, 3) := by decide +kernel
theorem dX5_now_23 : decode cX5_now 23 = .ok (.iload_n 1, 1) := by decide +kernel
theorem dX5_now_24 : decode cX5_now 24 = .ok (.iaload, 1) := by decide +kernel
theorem dX5_now_25 : decode cX5_now 25 = .ok (.ireturn, 1) := by decide +kernel
def f_X5_now (p1 : Int32) (M : Mem) : Int32 :=
  if ¬ (M 3 p1.toNatClampNeg) = (-1) then (M 3 p1.toNatClampNeg)
  else (M 2 p1.toNatClampNeg)
set_option maxRecDepth 100000 in
set_option maxHeartbeats 4000000 in
theorem k_X5_now (q : ZQ) (p1 : Int32) (M : Mem) (hp : vp_in p1 48) : Zc (zgM q) mX5_now 0 0 [.inr 0, .inl p1] M (wI M (f_X5_now p1 M)) := by
  refine Zc.of (by decide) zi_X5_now.1 (Nat.le_of_ble_eq_true rfl) rfl ?_
  show Zg _ _ _ _ _ _ (zlet (f_X5_now p1 M) (wI M)) _ _ _ _
  unfold f_X5_now
  refine zg_aload_n (x := 0) dX5_now_0 rfl ?_
  refine zg_getf (v := .inr 3) dX5_now_1 zf_X5_20 rfl rfl rfl ?_
  refine zg_iload_n (x := p1) dX5_now_4 rfl ?_
  refine zg_iald dX5_now_5 rfl hp ?_
  refine zg_iconst (v := (-1)) dX5_now_6 rfl ?_
  refine zg_icmpz (tgt := 19) dX5_now_7 rfl rfl (fun c7 => ?_) (fun c7 => ?_)
  · refine zg_st (pc' := 19) (L' := [some (.inr 0), some (.inl p1)]) (S' := []) (M' := M) rfl rfl rfl rfl ?_
    refine zg_aload_n (x := 0) dX5_now_19 rfl ?_
    refine zg_getf (v := .inr 3) dX5_now_20 zf_X5_20 rfl rfl rfl ?_
    refine zg_iload_n (x := p1) dX5_now_23 rfl ?_
    refine zg_iald dX5_now_24 rfl hp ?_
    exact zg_iret dX5_now_25 rfl rfl ⟨by decide, by decide⟩ rfl
  · refine zg_st (pc' := 10) (L' := [some (.inr 0), some (.inl p1)]) (S' := []) (M' := M) rfl rfl rfl rfl ?_
    refine zg_aload_n (x := 0) dX5_now_10 rfl ?_
    refine zg_getf (v := .inr 2) dX5_now_11 zf_X5_17 rfl rfl rfl ?_
    refine zg_iload_n (x := p1) dX5_now_14 rfl ?_
    refine zg_iald dX5_now_15 rfl hp ?_
    refine zg_goto (tgt := 25) dX5_now_16 rfl ?_
    refine zg_st (pc' := 25) (L' := [some (.inr 0), some (.inl p1)]) (S' := [.inl (M 2 p1.toNatClampNeg)]) (M' := M) rfl rfl rfl rfl ?_
    exact zg_iret dX5_now_25 rfl rfl ⟨by decide, by decide⟩ rfl
theorem dX5_isThere_0 : decode cX5_isThere 0 = .ok (.aload_n 0, 1) := by decide +kernel
theorem dX5_isThere_1 : decode cX5_isThere 1 = .ok (.getfield 23, 3) := by decide +kernel
theorem dX5_isThere_4 : decode cX5_isThere 4 = .ok (.iload_n 1, 1) := by decide +kernel
theorem dX5_isThere_5 : decode cX5_isThere 5 = .ok (.iaload, 1) := by decide +kernel
theorem dX5_isThere_6 : decode cX5_isThere 6 = .ok (.iconst (-1), 1) := by decide +kernel
theorem dX5_isThere_7 : decode cX5_isThere 7 = .ok (.if_icmp .eq 7, 3) := by decide +kernel
theorem dX5_isThere_10 : decode cX5_isThere 10 = .ok (.iconst 1, 1) := by decide +kernel
theorem dX5_isThere_11 : decode cX5_isThere 11 = .ok (.goto 4, 3) := by decide +kernel
theorem dX5_isThere_14 : decode cX5_isThere 14 = .ok (.iconst 0, 1) := by decide +kernel
theorem dX5_isThere_15 : decode cX5_isThere 15 = .ok (.ireturn, 1) := by decide +kernel
def f_X5_isThere (p1 : Int32) (M : Mem) : Bool :=
  if (M 4 p1.toNatClampNeg) = (-1) then false
  else true
set_option maxRecDepth 100000 in
set_option maxHeartbeats 4000000 in
theorem k_X5_isThere (q : ZQ) (p1 : Int32) (M : Mem) (hp : vp_in p1 53) : Zc (zgM q) mX5_isThere 0 0 [.inr 0, .inl p1] M (wB M (f_X5_isThere p1 M)) := by
  refine Zc.of (by decide) zi_X5_isThere.1 (Nat.le_of_ble_eq_true rfl) rfl ?_
  show Zg _ _ _ _ _ _ (zlet (f_X5_isThere p1 M) (wB M)) _ _ _ _
  unfold f_X5_isThere
  refine zg_aload_n (x := 0) dX5_isThere_0 rfl ?_
  refine zg_getf (v := .inr 4) dX5_isThere_1 zf_X5_23 rfl rfl rfl ?_
  refine zg_iload_n (x := p1) dX5_isThere_4 rfl ?_
  refine zg_iald dX5_isThere_5 rfl hp ?_
  refine zg_iconst (v := (-1)) dX5_isThere_6 rfl ?_
  refine zg_icmpz (tgt := 14) dX5_isThere_7 rfl rfl (fun c7 => ?_) (fun c7 => ?_)
  · refine zg_st (pc' := 14) (L' := [some (.inr 0), some (.inl p1)]) (S' := []) (M' := M) rfl rfl rfl rfl ?_
    refine zg_iconst (v := 0) dX5_isThere_14 rfl ?_
    exact zg_iret dX5_isThere_15 rfl rfl ⟨by decide, by decide⟩ rfl
  · refine zg_st (pc' := 10) (L' := [some (.inr 0), some (.inl p1)]) (S' := []) (M' := M) rfl rfl rfl rfl ?_
    refine zg_iconst (v := 1) dX5_isThere_10 rfl ?_
    refine zg_goto (tgt := 15) dX5_isThere_11 rfl ?_
    refine zg_st (pc' := 15) (L' := [some (.inr 0), some (.inl p1)]) (S' := [.inl 1]) (M' := M) rfl rfl rfl rfl ?_
    exact zg_iret dX5_isThere_15 rfl rfl ⟨by decide, by decide⟩ rfl
theorem dX5_isGood_0 : decode cX5_isGood 0 = .ok (.iload_n 1, 1) := by decide +kernel
theorem dX5_isGood_1 : decode cX5_isGood 1 = .ok (.iconst (-1), 1) := by decide +kernel
theorem dX5_isGood_2 : decode cX5_isGood 2 = .ok (.if_icmp .eq 36, 3) := by decide +kernel
theorem dX5_isGood_5 : decode cX5_isGood 5 = .ok (.aload_n 0, 1) := by decide +kernel
theorem dX5_isGood_6 : decode cX5_isGood 6 = .ok (.getfield 42, 3) := by decide +kernel
theorem dX5_isGood_9 : decode cX5_isGood 9 = .ok (.iconst 2, 1) := by decide +kernel
theorem dX5_isGood_10 : decode cX5_isGood 10 = .ok (.iload_n 1, 1) := by decide +kernel
theorem dX5_isGood_11 : decode cX5_isGood 11 = .ok (.bipush 40, 2) := by decide +kernel
theorem dX5_isGood_13 : decode cX5_isGood 13 = .ok (.idiv, 1) := by decide +kernel
theorem dX5_isGood_14 : decode cX5_isGood 14 = .ok (.imul, 1) := by decide +kernel
theorem dX5_isGood_15 : decode cX5_isGood 15 = .ok (.iload_n 2, 1) := by decide +kernel
theorem dX5_isGood_16 : decode cX5_isGood 16 = .ok (.iadd, 1) := by decide +kernel
theorem dX5_isGood_17 : decode cX5_isGood 17 = .ok (.baload, 1) := by decide +kernel
theorem dX5_isGood_18 : decode cX5_isGood 18 = .ok (.ifCond .ne 20, 3) := by decide +kernel
theorem dX5_isGood_21 : decode cX5_isGood 21 = .ok (.aload_n 0, 1) := by decide +kernel
theorem dX5_isGood_22 : decode cX5_isGood 22 = .ok (.getfield 39, 3) := by decide +kernel
theorem dX5_isGood_25 : decode cX5_isGood 25 = .ok (.iconst 2, 1) := by decide +kernel
theorem dX5_isGood_26 : decode cX5_isGood 26 = .ok (.iload_n 1, 1) := by decide +kernel
theorem dX5_isGood_27 : decode cX5_isGood 27 = .ok (.imul, 1) := by decide +kernel
theorem dX5_isGood_28 : decode cX5_isGood 28 = .ok (.iload_n 2, 1) := by decide +kernel
theorem dX5_isGood_29 : decode cX5_isGood 29 = .ok (.iadd, 1) := by decide +kernel
theorem dX5_isGood_30 : decode cX5_isGood 30 = .ok (.baload, 1) := by decide +kernel
theorem dX5_isGood_31 : decode cX5_isGood 31 = .ok (.ifCond .ne 7, 3) := by decide +kernel
theorem dX5_isGood_34 : decode cX5_isGood 34 = .ok (.iconst 1, 1) := by decide +kernel
theorem dX5_isGood_35 : decode cX5_isGood 35 = .ok (.goto 4, 3) := by decide +kernel
theorem dX5_isGood_38 : decode cX5_isGood 38 = .ok (.iconst 0, 1) := by decide +kernel
theorem dX5_isGood_39 : decode cX5_isGood 39 = .ok (.ireturn, 1) := by decide +kernel
def f_X5_isGood (p1 : Int32) (p2 : Int32) (M : Mem) : Bool :=
  if p1 = (-1) then false
  else if ¬ (M 10 ((2 * (p1 / 40)) + p2).toNatClampNeg) = 0 then false
  else if ¬ (M 9 ((2 * p1) + p2).toNatClampNeg) = 0 then false
  else true
set_option maxRecDepth 100000 in
set_option maxHeartbeats 4000000 in
theorem k_X5_isGood (q : ZQ) (p1 : Int32) (p2 : Int32) (M : Mem) (hp : zGd p1 p2) : Zc (zgM q) mX5_isGood 0 0 [.inr 0, .inl p1, .inl p2] M (wB M (f_X5_isGood p1 p2 M)) := by
  refine Zc.of (by decide) zi_X5_isGood.1 (Nat.le_of_ble_eq_true rfl) rfl ?_
  show Zg _ _ _ _ _ _ (zlet (f_X5_isGood p1 p2 M) (wB M)) _ _ _ _
  unfold f_X5_isGood
  refine zg_iload_n (x := p1) dX5_isGood_0 rfl ?_
  refine zg_iconst (v := (-1)) dX5_isGood_1 rfl ?_
  refine zg_icmpz (tgt := 38) dX5_isGood_2 rfl rfl (fun c2 => ?_) (fun c2 => ?_)
  · refine zg_st (pc' := 38) (L' := [some (.inr 0), some (.inl p1), some (.inl p2)]) (S' := []) (M' := M) rfl rfl rfl rfl ?_
    refine zg_iconst (v := 0) dX5_isGood_38 rfl ?_
    exact zg_iret dX5_isGood_39 rfl rfl ⟨by decide, by decide⟩ rfl
  · refine zg_st (pc' := 5) (L' := [some (.inr 0), some (.inl p1), some (.inl p2)]) (S' := []) (M' := M) rfl rfl rfl rfl ?_
    refine zg_aload_n (x := 0) dX5_isGood_5 rfl ?_
    refine zg_getf (v := .inr 10) dX5_isGood_6 zf_X5_42 rfl rfl rfl ?_
    refine zg_iconst (v := 2) dX5_isGood_9 rfl ?_
    refine zg_iload_n (x := p1) dX5_isGood_10 rfl ?_
    refine zg_bipush (v := 40) dX5_isGood_11 rfl ?_
    refine zg_idiv dX5_isGood_13 (by decide) ?_
    refine zg_imul dX5_isGood_14 ?_
    refine zg_iload_n (x := p2) dX5_isGood_15 rfl ?_
    refine zg_iadd dX5_isGood_16 ?_
    refine zg_zald dX5_isGood_17 rfl (z_g1 hp c2) ?_
    refine zg_ifz (tgt := 38) dX5_isGood_18 rfl rfl (fun c18 => ?_) (fun c18 => ?_)
    · refine zg_st (pc' := 38) (L' := [some (.inr 0), some (.inl p1), some (.inl p2)]) (S' := []) (M' := M) rfl rfl rfl rfl ?_
      refine zg_iconst (v := 0) dX5_isGood_38 rfl ?_
      exact zg_iret dX5_isGood_39 rfl rfl ⟨by decide, by decide⟩ rfl
    · refine zg_st (pc' := 21) (L' := [some (.inr 0), some (.inl p1), some (.inl p2)]) (S' := []) (M' := M) rfl rfl rfl rfl ?_
      refine zg_aload_n (x := 0) dX5_isGood_21 rfl ?_
      refine zg_getf (v := .inr 9) dX5_isGood_22 zf_X5_39 rfl rfl rfl ?_
      refine zg_iconst (v := 2) dX5_isGood_25 rfl ?_
      refine zg_iload_n (x := p1) dX5_isGood_26 rfl ?_
      refine zg_imul dX5_isGood_27 ?_
      refine zg_iload_n (x := p2) dX5_isGood_28 rfl ?_
      refine zg_iadd dX5_isGood_29 ?_
      refine zg_zald dX5_isGood_30 rfl (z_g2 hp c2) ?_
      refine zg_ifz (tgt := 38) dX5_isGood_31 rfl rfl (fun c31 => ?_) (fun c31 => ?_)
      · refine zg_st (pc' := 38) (L' := [some (.inr 0), some (.inl p1), some (.inl p2)]) (S' := []) (M' := M) rfl rfl rfl rfl ?_
        refine zg_iconst (v := 0) dX5_isGood_38 rfl ?_
        exact zg_iret dX5_isGood_39 rfl rfl ⟨by decide, by decide⟩ rfl
      · refine zg_st (pc' := 34) (L' := [some (.inr 0), some (.inl p1), some (.inl p2)]) (S' := []) (M' := M) rfl rfl rfl rfl ?_
        refine zg_iconst (v := 1) dX5_isGood_34 rfl ?_
        refine zg_goto (tgt := 39) dX5_isGood_35 rfl ?_
        refine zg_st (pc' := 39) (L' := [some (.inr 0), some (.inl p1), some (.inl p2)]) (S' := [.inl 1]) (M' := M) rfl rfl rfl rfl ?_
        exact zg_iret dX5_isGood_39 rfl rfl ⟨by decide, by decide⟩ rfl
theorem dX5_heal_0 : decode cX5_heal 0 = .ok (.iload_n 1, 1) := by decide +kernel
theorem dX5_heal_1 : decode cX5_heal 1 = .ok (.iconst (-1), 1) := by decide +kernel
theorem dX5_heal_2 : decode cX5_heal 2 = .ok (.if_icmp .eq 36, 3) := by decide +kernel
theorem dX5_heal_5 : decode cX5_heal 5 = .ok (.aload_n 0, 1) := by decide +kernel
theorem dX5_heal_6 : decode cX5_heal 6 = .ok (.getfield 42, 3) := by decide +kernel
theorem dX5_heal_9 : decode cX5_heal 9 = .ok (.iconst 2, 1) := by decide +kernel
theorem dX5_heal_10 : decode cX5_heal 10 = .ok (.iload_n 1, 1) := by decide +kernel
theorem dX5_heal_11 : decode cX5_heal 11 = .ok (.bipush 40, 2) := by decide +kernel
theorem dX5_heal_13 : decode cX5_heal 13 = .ok (.idiv, 1) := by decide +kernel
theorem dX5_heal_14 : decode cX5_heal 14 = .ok (.imul, 1) := by decide +kernel
theorem dX5_heal_15 : decode cX5_heal 15 = .ok (.iload_n 2, 1) := by decide +kernel
theorem dX5_heal_16 : decode cX5_heal 16 = .ok (.iadd, 1) := by decide +kernel
theorem dX5_heal_17 : decode cX5_heal 17 = .ok (.baload, 1) := by decide +kernel
theorem dX5_heal_18 : decode cX5_heal 18 = .ok (.ifCond .ne 20, 3) := by decide +kernel
theorem dX5_heal_21 : decode cX5_heal 21 = .ok (.aload_n 0, 1) := by decide +kernel
theorem dX5_heal_22 : decode cX5_heal 22 = .ok (.getfield 39, 3) := by decide +kernel
theorem dX5_heal_25 : decode cX5_heal 25 = .ok (.iconst 2, 1) := by decide +kernel
theorem dX5_heal_26 : decode cX5_heal 26 = .ok (.iload_n 1, 1) := by decide +kernel
theorem dX5_heal_27 : decode cX5_heal 27 = .ok (.imul, 1) := by decide +kernel
theorem dX5_heal_28 : decode cX5_heal 28 = .ok (.iload_n 2, 1) := by decide +kernel
theorem dX5_heal_29 : decode cX5_heal 29 = .ok (.iadd, 1) := by decide +kernel
theorem dX5_heal_30 : decode cX5_heal 30 = .ok (.baload, 1) := by decide +kernel
theorem dX5_heal_31 : decode cX5_heal 31 = .ok (.ifCond .eq 7, 3) := by decide +kernel
theorem dX5_heal_34 : decode cX5_heal 34 = .ok (.iconst 1, 1) := by decide +kernel
theorem dX5_heal_35 : decode cX5_heal 35 = .ok (.goto 4, 3) := by decide +kernel
theorem dX5_heal_38 : decode cX5_heal 38 = .ok (.iconst 0, 1) := by decide +kernel
theorem dX5_heal_39 : decode cX5_heal 39 = .ok (.istore_n 3, 1) := by decide +kernel
theorem dX5_heal_40 : decode cX5_heal 40 = .ok (.iload_n 3, 1) := by decide +kernel
theorem dX5_heal_41 : decode cX5_heal 41 = .ok (.ifCond .eq 14, 3) := by decide +kernel
theorem dX5_heal_44 : decode cX5_heal 44 = .ok (.aload_n 0, 1) := by decide +kernel
theorem dX5_heal_45 : decode cX5_heal 45 = .ok (.getfield 39, 3) := by decide +kernel
theorem dX5_heal_48 : decode cX5_heal 48 = .ok (.iconst 2, 1) := by decide +kernel
theorem dX5_heal_49 : decode cX5_heal 49 = .ok (.iload_n 1, 1) := by decide +kernel
theorem dX5_heal_50 : decode cX5_heal 50 = .ok (.imul, 1) := by decide +kernel
theorem dX5_heal_51 : decode cX5_heal 51 = .ok (.iload_n 2, 1) := by decide +kernel
theorem dX5_heal_52 : decode cX5_heal 52 = .ok (.iadd, 1) := by decide +kernel
theorem dX5_heal_53 : decode cX5_heal 53 = .ok (.iconst 0, 1) := by decide +kernel
theorem dX5_heal_54 : decode cX5_heal 54 = .ok (.bastore, 1) := by decide +kernel
theorem dX5_heal_55 : decode cX5_heal 55 = .ok (.iload_n 3, 1) := by decide +kernel
theorem dX5_heal_56 : decode cX5_heal 56 = .ok (.ifCond .eq 7, 3) := by decide +kernel
theorem dX5_heal_59 : decode cX5_heal 59 = .ok (.iconst 1, 1) := by decide +kernel
theorem dX5_heal_60 : decode cX5_heal 60 = .ok (.goto 4, 3) := by decide +kernel
theorem dX5_heal_63 : decode cX5_heal 63 = .ok (.iconst 0, 1) := by decide +kernel
theorem dX5_heal_64 : decode cX5_heal 64 = .ok (.ireturn, 1) := by decide +kernel
def f_X5_heal (p1 : Int32) (p2 : Int32) (M : Mem) : (Int32 × Mem) :=
  if p1 = (-1) then (0, M)
  else if ¬ (M 10 ((2 * (p1 / 40)) + p2).toNatClampNeg) = 0 then (0, M)
  else if (M 9 ((2 * p1) + p2).toNatClampNeg) = 0 then (0, M)
  else (1, (mup M 9 ((2 * p1) + p2).toNatClampNeg 0))
set_option maxRecDepth 100000 in
set_option maxHeartbeats 4000000 in
theorem k_X5_heal (q : ZQ) (p1 : Int32) (p2 : Int32) (M : Mem) (hp : zGd p1 p2) : Zc (zgM q) mX5_heal 0 0 [.inr 0, .inl p1, .inl p2] M (wIM (f_X5_heal p1 p2 M)) := by
  refine Zc.of (by decide) zi_X5_heal.1 (Nat.le_of_ble_eq_true rfl) rfl ?_
  show Zg _ _ _ _ _ _ (zlet (f_X5_heal p1 p2 M) wIM) _ _ _ _
  unfold f_X5_heal
  refine zg_iload_n (x := p1) dX5_heal_0 rfl ?_
  refine zg_iconst (v := (-1)) dX5_heal_1 rfl ?_
  refine zg_icmpz (tgt := 38) dX5_heal_2 rfl rfl (fun c2 => ?_) (fun c2 => ?_)
  · refine zg_st (pc' := 38) (L' := [some (.inr 0), some (.inl p1), some (.inl p2), none]) (S' := []) (M' := M) rfl rfl rfl rfl ?_
    refine zg_iconst (v := 0) dX5_heal_38 rfl ?_
    refine zg_istore_n dX5_heal_39 (by decide) ?_
    refine zg_st (pc' := 40) (L' := [some (.inr 0), some (.inl p1), some (.inl p2), some (.inl 0)]) (S' := []) (M' := M) rfl rfl rfl rfl ?_
    refine zg_iload_n (x := 0) dX5_heal_40 rfl ?_
    refine zg_jt (tgt := 55) dX5_heal_41 rfl (show (0 : Int32) = 0 from by decide) ?_
    refine zg_st (pc' := 55) (L' := [some (.inr 0), some (.inl p1), some (.inl p2), some (.inl 0)]) (S' := []) (M' := M) rfl rfl rfl rfl ?_
    refine zg_iload_n (x := 0) dX5_heal_55 rfl ?_
    refine zg_jt (tgt := 63) dX5_heal_56 rfl (show (0 : Int32) = 0 from by decide) ?_
    refine zg_st (pc' := 63) (L' := [some (.inr 0), some (.inl p1), some (.inl p2), some (.inl 0)]) (S' := []) (M' := M) rfl rfl rfl rfl ?_
    refine zg_iconst (v := 0) dX5_heal_63 rfl ?_
    exact zg_iret dX5_heal_64 rfl rfl ⟨by decide, by decide⟩ rfl
  · refine zg_st (pc' := 5) (L' := [some (.inr 0), some (.inl p1), some (.inl p2), none]) (S' := []) (M' := M) rfl rfl rfl rfl ?_
    refine zg_aload_n (x := 0) dX5_heal_5 rfl ?_
    refine zg_getf (v := .inr 10) dX5_heal_6 zf_X5_42 rfl rfl rfl ?_
    refine zg_iconst (v := 2) dX5_heal_9 rfl ?_
    refine zg_iload_n (x := p1) dX5_heal_10 rfl ?_
    refine zg_bipush (v := 40) dX5_heal_11 rfl ?_
    refine zg_idiv dX5_heal_13 (by decide) ?_
    refine zg_imul dX5_heal_14 ?_
    refine zg_iload_n (x := p2) dX5_heal_15 rfl ?_
    refine zg_iadd dX5_heal_16 ?_
    refine zg_zald dX5_heal_17 rfl (z_g1 hp c2) ?_
    refine zg_ifz (tgt := 38) dX5_heal_18 rfl rfl (fun c18 => ?_) (fun c18 => ?_)
    · refine zg_st (pc' := 38) (L' := [some (.inr 0), some (.inl p1), some (.inl p2), none]) (S' := []) (M' := M) rfl rfl rfl rfl ?_
      refine zg_iconst (v := 0) dX5_heal_38 rfl ?_
      refine zg_istore_n dX5_heal_39 (by decide) ?_
      refine zg_st (pc' := 40) (L' := [some (.inr 0), some (.inl p1), some (.inl p2), some (.inl 0)]) (S' := []) (M' := M) rfl rfl rfl rfl ?_
      refine zg_iload_n (x := 0) dX5_heal_40 rfl ?_
      refine zg_jt (tgt := 55) dX5_heal_41 rfl (show (0 : Int32) = 0 from by decide) ?_
      refine zg_st (pc' := 55) (L' := [some (.inr 0), some (.inl p1), some (.inl p2), some (.inl 0)]) (S' := []) (M' := M) rfl rfl rfl rfl ?_
      refine zg_iload_n (x := 0) dX5_heal_55 rfl ?_
      refine zg_jt (tgt := 63) dX5_heal_56 rfl (show (0 : Int32) = 0 from by decide) ?_
      refine zg_st (pc' := 63) (L' := [some (.inr 0), some (.inl p1), some (.inl p2), some (.inl 0)]) (S' := []) (M' := M) rfl rfl rfl rfl ?_
      refine zg_iconst (v := 0) dX5_heal_63 rfl ?_
      exact zg_iret dX5_heal_64 rfl rfl ⟨by decide, by decide⟩ rfl
    · refine zg_st (pc' := 21) (L' := [some (.inr 0), some (.inl p1), some (.inl p2), none]) (S' := []) (M' := M) rfl rfl rfl rfl ?_
      refine zg_aload_n (x := 0) dX5_heal_21 rfl ?_
      refine zg_getf (v := .inr 9) dX5_heal_22 zf_X5_39 rfl rfl rfl ?_
      refine zg_iconst (v := 2) dX5_heal_25 rfl ?_
      refine zg_iload_n (x := p1) dX5_heal_26 rfl ?_
      refine zg_imul dX5_heal_27 ?_
      refine zg_iload_n (x := p2) dX5_heal_28 rfl ?_
      refine zg_iadd dX5_heal_29 ?_
      refine zg_zald dX5_heal_30 rfl (z_g2 hp c2) ?_
      refine zg_ifz (tgt := 38) dX5_heal_31 rfl rfl (fun c31 => ?_) (fun c31 => ?_)
      · refine zg_st (pc' := 38) (L' := [some (.inr 0), some (.inl p1), some (.inl p2), none]) (S' := []) (M' := M) rfl rfl rfl rfl ?_
        refine zg_iconst (v := 0) dX5_heal_38 rfl ?_
        refine zg_istore_n dX5_heal_39 (by decide) ?_
        refine zg_st (pc' := 40) (L' := [some (.inr 0), some (.inl p1), some (.inl p2), some (.inl 0)]) (S' := []) (M' := M) rfl rfl rfl rfl ?_
        refine zg_iload_n (x := 0) dX5_heal_40 rfl ?_
        refine zg_jt (tgt := 55) dX5_heal_41 rfl (show (0 : Int32) = 0 from by decide) ?_
        refine zg_st (pc' := 55) (L' := [some (.inr 0), some (.inl p1), some (.inl p2), some (.inl 0)]) (S' := []) (M' := M) rfl rfl rfl rfl ?_
        refine zg_iload_n (x := 0) dX5_heal_55 rfl ?_
        refine zg_jt (tgt := 63) dX5_heal_56 rfl (show (0 : Int32) = 0 from by decide) ?_
        refine zg_st (pc' := 63) (L' := [some (.inr 0), some (.inl p1), some (.inl p2), some (.inl 0)]) (S' := []) (M' := M) rfl rfl rfl rfl ?_
        refine zg_iconst (v := 0) dX5_heal_63 rfl ?_
        exact zg_iret dX5_heal_64 rfl rfl ⟨by decide, by decide⟩ rfl
      · refine zg_st (pc' := 34) (L' := [some (.inr 0), some (.inl p1), some (.inl p2), none]) (S' := []) (M' := M) rfl rfl rfl rfl ?_
        refine zg_iconst (v := 1) dX5_heal_34 rfl ?_
        refine zg_goto (tgt := 39) dX5_heal_35 rfl ?_
        refine zg_st (pc' := 39) (L' := [some (.inr 0), some (.inl p1), some (.inl p2), none]) (S' := [.inl 1]) (M' := M) rfl rfl rfl rfl ?_
        refine zg_istore_n dX5_heal_39 (by decide) ?_
        refine zg_st (pc' := 40) (L' := [some (.inr 0), some (.inl p1), some (.inl p2), some (.inl 1)]) (S' := []) (M' := M) rfl rfl rfl rfl ?_
        refine zg_iload_n (x := 1) dX5_heal_40 rfl ?_
        refine zg_jf (tgt := 55) dX5_heal_41 rfl (show ¬ ((1 : Int32) = 0) from by decide) ?_
        refine zg_st (pc' := 44) (L' := [some (.inr 0), some (.inl p1), some (.inl p2), some (.inl 1)]) (S' := []) (M' := M) rfl rfl rfl rfl ?_
        refine zg_aload_n (x := 0) dX5_heal_44 rfl ?_
        refine zg_getf (v := .inr 9) dX5_heal_45 zf_X5_39 rfl rfl rfl ?_
        refine zg_iconst (v := 2) dX5_heal_48 rfl ?_
        refine zg_iload_n (x := p1) dX5_heal_49 rfl ?_
        refine zg_imul dX5_heal_50 ?_
        refine zg_iload_n (x := p2) dX5_heal_51 rfl ?_
        refine zg_iadd dX5_heal_52 ?_
        refine zg_iconst (v := 0) dX5_heal_53 rfl ?_
        refine zg_zast (v := 0) dX5_heal_54 rfl (z_g2 hp c2) rfl ?_
        refine zg_iload_n (x := 1) dX5_heal_55 rfl ?_
        refine zg_jf (tgt := 63) dX5_heal_56 rfl (show ¬ ((1 : Int32) = 0) from by decide) ?_
        refine zg_st (pc' := 59) (L' := [some (.inr 0), some (.inl p1), some (.inl p2), some (.inl 1)]) (S' := []) (M' := (mup M 9 ((2 * p1) + p2).toNatClampNeg 0)) rfl rfl rfl rfl ?_
        refine zg_iconst (v := 1) dX5_heal_59 rfl ?_
        refine zg_goto (tgt := 64) dX5_heal_60 rfl ?_
        refine zg_st (pc' := 64) (L' := [some (.inr 0), some (.inl p1), some (.inl p2), some (.inl 1)]) (S' := [.inl 1]) (M' := (mup M 9 ((2 * p1) + p2).toNatClampNeg 0)) rfl rfl rfl rfl ?_
        exact zg_iret dX5_heal_64 rfl rfl ⟨by decide, by decide⟩ rfl
theorem dX5_fine_0 : decode cX5_fine 0 = .ok (.aload_n 0, 1) := by decide +kernel
theorem dX5_fine_1 : decode cX5_fine 1 = .ok (.iconst 0, 1) := by decide +kernel
theorem dX5_fine_2 : decode cX5_fine 2 = .ok (.putfield 63, 3) := by decide +kernel
theorem dX5_fine_5 : decode cX5_fine 5 = .ok (.iload_n 1, 1) := by decide +kernel
theorem dX5_fine_6 : decode cX5_fine 6 = .ok (.ireturn, 1) := by decide +kernel
def f_X5_fine (p1 : Int32) (M : Mem) : (Int32 × Mem) :=
  (p1, (mup M 0 0 0))
set_option maxRecDepth 100000 in
set_option maxHeartbeats 4000000 in
theorem k_X5_fine (q : ZQ) (p1 : Int32) (M : Mem) : Zc (zgM q) mX5_fine 0 0 [.inr 0, .inl p1] M (wIM (f_X5_fine p1 M)) := by
  refine Zc.of (by decide) zi_X5_fine.1 (Nat.le_of_ble_eq_true rfl) rfl ?_
  show Zg _ _ _ _ _ _ (zlet (f_X5_fine p1 M) wIM) _ _ _ _
  unfold f_X5_fine
  refine zg_aload_n (x := 0) dX5_fine_0 rfl ?_
  refine zg_iconst (v := 0) dX5_fine_1 rfl ?_
  refine zg_putf dX5_fine_2 zp_X5_63 rfl rfl ?_
  refine zg_iload_n (x := p1) dX5_fine_5 rfl ?_
  exact zg_iret dX5_fine_6 rfl rfl ⟨by decide, by decide⟩ rfl
theorem dX5_isSide_0 : decode cX5_isSide 0 = .ok (.iload_n 0, 1) := by decide +kernel
theorem dX5_isSide_1 : decode cX5_isSide 1 = .ok (.iconst 0, 1) := by decide +kernel
theorem dX5_isSide_2 : decode cX5_isSide 2 = .ok (.iconst 2, 1) := by decide +kernel
theorem dX5_isSide_3 : decode cX5_isSide 3 = .ok (.invokestatic 66, 3) := by decide +kernel
theorem dX5_isSide_6 : decode cX5_isSide 6 = .ok (.ifCond .eq 16, 3) := by decide +kernel
theorem dX5_isSide_9 : decode cX5_isSide 9 = .ok (.iload_n 1, 1) := by decide +kernel
theorem dX5_isSide_10 : decode cX5_isSide 10 = .ok (.iconst 0, 1) := by decide +kernel
theorem dX5_isSide_11 : decode cX5_isSide 11 = .ok (.iconst 1, 1) := by decide +kernel
theorem dX5_isSide_12 : decode cX5_isSide 12 = .ok (.invokestatic 66, 3) := by decide +kernel
theorem dX5_isSide_15 : decode cX5_isSide 15 = .ok (.ifCond .eq 7, 3) := by decide +kernel
theorem dX5_isSide_18 : decode cX5_isSide 18 = .ok (.iconst 1, 1) := by decide +kernel
theorem dX5_isSide_19 : decode cX5_isSide 19 = .ok (.goto 4, 3) := by decide +kernel
theorem dX5_isSide_22 : decode cX5_isSide 22 = .ok (.iconst 0, 1) := by decide +kernel
theorem dX5_isSide_23 : decode cX5_isSide 23 = .ok (.ireturn, 1) := by decide +kernel
def f_X5_isSide (p0 : Int32) (p1 : Int32) : Bool :=
  if (f_X5_in p0 0 2) then if (f_X5_in p1 0 1) then true
    else false
  else false
set_option maxRecDepth 100000 in
set_option maxHeartbeats 4000000 in
theorem k_X5_isSide (q : ZQ) (p0 : Int32) (p1 : Int32) (M : Mem) : Zc (zgM q) mX5_isSide 0 0 [.inl p0, .inl p1] M (wB M (f_X5_isSide p0 p1)) := by
  refine Zc.of (by decide) zi_X5_isSide.1 (Nat.le_of_ble_eq_true rfl) rfl ?_
  show Zg _ _ _ _ _ _ (zlet (f_X5_isSide p0 p1) (wB M)) _ _ _ _
  unfold f_X5_isSide
  refine zg_iload_n (x := p0) dX5_isSide_0 rfl ?_
  refine zg_iconst (v := 0) dX5_isSide_1 rfl ?_
  refine zg_iconst (v := 2) dX5_isSide_2 rfl ?_
  refine zg_cS1 (As := [.inl p0, .inl 0, .inl 2]) (S := []) (v := bI ((f_X5_in p0 0 2))) dX5_isSide_3 zk_X5_66 (k_X5_in q p0 0 2 M) rfl ⟨by decide, by decide⟩ ⟨by decide, by decide⟩ rfl (Nat.le_of_ble_eq_true rfl) ?_
  refine zg_st (pc' := 6) (L' := [some (.inl p0), some (.inl p1)]) (S' := [.inl (bI ((f_X5_in p0 0 2)))]) (M' := M) rfl rfl rfl rfl ?_
  refine zg_ifbe (tgt := 22) dX5_isSide_6 rfl (fun c6 => ?_) (fun c6 => ?_)
  · refine zg_st (pc' := 9) (L' := [some (.inl p0), some (.inl p1)]) (S' := []) (M' := M) rfl rfl rfl rfl ?_
    refine zg_iload_n (x := p1) dX5_isSide_9 rfl ?_
    refine zg_iconst (v := 0) dX5_isSide_10 rfl ?_
    refine zg_iconst (v := 1) dX5_isSide_11 rfl ?_
    refine zg_cS1 (As := [.inl p1, .inl 0, .inl 1]) (S := []) (v := bI ((f_X5_in p1 0 1))) dX5_isSide_12 zk_X5_66 (k_X5_in q p1 0 1 M) rfl ⟨by decide, by decide⟩ ⟨by decide, by decide⟩ rfl (Nat.le_of_ble_eq_true rfl) ?_
    refine zg_st (pc' := 15) (L' := [some (.inl p0), some (.inl p1)]) (S' := [.inl (bI ((f_X5_in p1 0 1)))]) (M' := M) rfl rfl rfl rfl ?_
    refine zg_ifbe (tgt := 22) dX5_isSide_15 rfl (fun c15 => ?_) (fun c15 => ?_)
    · refine zg_st (pc' := 18) (L' := [some (.inl p0), some (.inl p1)]) (S' := []) (M' := M) rfl rfl rfl rfl ?_
      refine zg_iconst (v := 1) dX5_isSide_18 rfl ?_
      refine zg_goto (tgt := 23) dX5_isSide_19 rfl ?_
      refine zg_st (pc' := 23) (L' := [some (.inl p0), some (.inl p1)]) (S' := [.inl 1]) (M' := M) rfl rfl rfl rfl ?_
      exact zg_iret dX5_isSide_23 rfl rfl ⟨by decide, by decide⟩ rfl
    · refine zg_st (pc' := 22) (L' := [some (.inl p0), some (.inl p1)]) (S' := []) (M' := M) rfl rfl rfl rfl ?_
      refine zg_iconst (v := 0) dX5_isSide_22 rfl ?_
      exact zg_iret dX5_isSide_23 rfl rfl ⟨by decide, by decide⟩ rfl
  · refine zg_st (pc' := 22) (L' := [some (.inl p0), some (.inl p1)]) (S' := []) (M' := M) rfl rfl rfl rfl ?_
    refine zg_iconst (v := 0) dX5_isSide_22 rfl ?_
    exact zg_iret dX5_isSide_23 rfl rfl ⟨by decide, by decide⟩ rfl
theorem dX5_isCell_0 : decode cX5_isCell 0 = .ok (.iload_n 0, 1) := by decide +kernel
theorem dX5_isCell_1 : decode cX5_isCell 1 = .ok (.iconst 0, 1) := by decide +kernel
theorem dX5_isCell_2 : decode cX5_isCell 2 = .ok (.iconst 2, 1) := by decide +kernel
theorem dX5_isCell_3 : decode cX5_isCell 3 = .ok (.invokestatic 66, 3) := by decide +kernel
theorem dX5_isCell_6 : decode cX5_isCell 6 = .ok (.ifCond .eq 17, 3) := by decide +kernel
theorem dX5_isCell_9 : decode cX5_isCell 9 = .ok (.iload_n 1, 1) := by decide +kernel
theorem dX5_isCell_10 : decode cX5_isCell 10 = .ok (.iconst 0, 1) := by decide +kernel
theorem dX5_isCell_11 : decode cX5_isCell 11 = .ok (.bipush 39, 2) := by decide +kernel
theorem dX5_isCell_13 : decode cX5_isCell 13 = .ok (.invokestatic 66, 3) := by decide +kernel
theorem dX5_isCell_16 : decode cX5_isCell 16 = .ok (.ifCond .eq 7, 3) := by decide +kernel
theorem dX5_isCell_19 : decode cX5_isCell 19 = .ok (.iconst 1, 1) := by decide +kernel
theorem dX5_isCell_20 : decode cX5_isCell 20 = .ok (.goto 4, 3) := by decide +kernel
theorem dX5_isCell_23 : decode cX5_isCell 23 = .ok (.iconst 0, 1) := by decide +kernel
theorem dX5_isCell_24 : decode cX5_isCell 24 = .ok (.ireturn, 1) := by decide +kernel
def f_X5_isCell (p0 : Int32) (p1 : Int32) : Bool :=
  if (f_X5_in p0 0 2) then if (f_X5_in p1 0 39) then true
    else false
  else false
set_option maxRecDepth 100000 in
set_option maxHeartbeats 4000000 in
theorem k_X5_isCell (q : ZQ) (p0 : Int32) (p1 : Int32) (M : Mem) : Zc (zgM q) mX5_isCell 0 0 [.inl p0, .inl p1] M (wB M (f_X5_isCell p0 p1)) := by
  refine Zc.of (by decide) zi_X5_isCell.1 (Nat.le_of_ble_eq_true rfl) rfl ?_
  show Zg _ _ _ _ _ _ (zlet (f_X5_isCell p0 p1) (wB M)) _ _ _ _
  unfold f_X5_isCell
  refine zg_iload_n (x := p0) dX5_isCell_0 rfl ?_
  refine zg_iconst (v := 0) dX5_isCell_1 rfl ?_
  refine zg_iconst (v := 2) dX5_isCell_2 rfl ?_
  refine zg_cS1 (As := [.inl p0, .inl 0, .inl 2]) (S := []) (v := bI ((f_X5_in p0 0 2))) dX5_isCell_3 zk_X5_66 (k_X5_in q p0 0 2 M) rfl ⟨by decide, by decide⟩ ⟨by decide, by decide⟩ rfl (Nat.le_of_ble_eq_true rfl) ?_
  refine zg_st (pc' := 6) (L' := [some (.inl p0), some (.inl p1)]) (S' := [.inl (bI ((f_X5_in p0 0 2)))]) (M' := M) rfl rfl rfl rfl ?_
  refine zg_ifbe (tgt := 23) dX5_isCell_6 rfl (fun c6 => ?_) (fun c6 => ?_)
  · refine zg_st (pc' := 9) (L' := [some (.inl p0), some (.inl p1)]) (S' := []) (M' := M) rfl rfl rfl rfl ?_
    refine zg_iload_n (x := p1) dX5_isCell_9 rfl ?_
    refine zg_iconst (v := 0) dX5_isCell_10 rfl ?_
    refine zg_bipush (v := 39) dX5_isCell_11 rfl ?_
    refine zg_cS1 (As := [.inl p1, .inl 0, .inl 39]) (S := []) (v := bI ((f_X5_in p1 0 39))) dX5_isCell_13 zk_X5_66 (k_X5_in q p1 0 39 M) rfl ⟨by decide, by decide⟩ ⟨by decide, by decide⟩ rfl (Nat.le_of_ble_eq_true rfl) ?_
    refine zg_st (pc' := 16) (L' := [some (.inl p0), some (.inl p1)]) (S' := [.inl (bI ((f_X5_in p1 0 39)))]) (M' := M) rfl rfl rfl rfl ?_
    refine zg_ifbe (tgt := 23) dX5_isCell_16 rfl (fun c16 => ?_) (fun c16 => ?_)
    · refine zg_st (pc' := 19) (L' := [some (.inl p0), some (.inl p1)]) (S' := []) (M' := M) rfl rfl rfl rfl ?_
      refine zg_iconst (v := 1) dX5_isCell_19 rfl ?_
      refine zg_goto (tgt := 24) dX5_isCell_20 rfl ?_
      refine zg_st (pc' := 24) (L' := [some (.inl p0), some (.inl p1)]) (S' := [.inl 1]) (M' := M) rfl rfl rfl rfl ?_
      exact zg_iret dX5_isCell_24 rfl rfl ⟨by decide, by decide⟩ rfl
    · refine zg_st (pc' := 23) (L' := [some (.inl p0), some (.inl p1)]) (S' := []) (M' := M) rfl rfl rfl rfl ?_
      refine zg_iconst (v := 0) dX5_isCell_23 rfl ?_
      exact zg_iret dX5_isCell_24 rfl rfl ⟨by decide, by decide⟩ rfl
  · refine zg_st (pc' := 23) (L' := [some (.inl p0), some (.inl p1)]) (S' := []) (M' := M) rfl rfl rfl rfl ?_
    refine zg_iconst (v := 0) dX5_isCell_23 rfl ?_
    exact zg_iret dX5_isCell_24 rfl rfl ⟨by decide, by decide⟩ rfl
theorem dX5_thrown_0 : decode cX5_thrown 0 = .ok (.aload_n 0, 1) := by decide +kernel
theorem dX5_thrown_1 : decode cX5_thrown 1 = .ok (.getfield 63, 3) := by decide +kernel
theorem dX5_thrown_4 : decode cX5_thrown 4 = .ok (.ireturn, 1) := by decide +kernel
def f_X5_thrown (M : Mem) : Int32 :=
  (M 0 0)
set_option maxRecDepth 100000 in
set_option maxHeartbeats 4000000 in
theorem k_X5_thrown (q : ZQ) (M : Mem) : Zc (zgM q) mX5_thrown 0 0 [.inr 0] M (wI M (f_X5_thrown M)) := by
  refine Zc.of (by decide) zi_X5_thrown.1 (Nat.le_of_ble_eq_true rfl) rfl ?_
  show Zg _ _ _ _ _ _ (zlet (f_X5_thrown M) (wI M)) _ _ _ _
  unfold f_X5_thrown
  refine zg_aload_n (x := 0) dX5_thrown_0 rfl ?_
  refine zg_getf (v := .inl (M 0 0)) dX5_thrown_1 zf_X5_63 rfl rfl rfl ?_
  exact zg_iret dX5_thrown_4 rfl rfl ⟨by decide, by decide⟩ rfl
