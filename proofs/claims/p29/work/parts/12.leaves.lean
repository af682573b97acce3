theorem dX2_holds_0 : decode cX2_holds 0 = .ok (.iload_n 1, 1) := by decide +kernel
theorem dX2_holds_1 : decode cX2_holds 1 = .ok (.invokestatic 25, 3) := by decide +kernel
theorem dX2_holds_4 : decode cX2_holds 4 = .ok (.ifCond .eq 17, 3) := by decide +kernel
theorem dX2_holds_7 : decode cX2_holds 7 = .ok (.aload_n 0, 1) := by decide +kernel
theorem dX2_holds_8 : decode cX2_holds 8 = .ok (.getfield 9, 3) := by decide +kernel
theorem dX2_holds_11 : decode cX2_holds 11 = .ok (.iload_n 1, 1) := by decide +kernel
theorem dX2_holds_12 : decode cX2_holds 12 = .ok (.iaload, 1) := by decide +kernel
theorem dX2_holds_13 : decode cX2_holds 13 = .ok (.iconst (-1), 1) := by decide +kernel
theorem dX2_holds_14 : decode cX2_holds 14 = .ok (.if_icmp .eq 7, 3) := by decide +kernel
theorem dX2_holds_17 : decode cX2_holds 17 = .ok (.iconst 1, 1) := by decide +kernel
theorem dX2_holds_18 : decode cX2_holds 18 = .ok (.goto 4, 3) := by decide +kernel
theorem dX2_holds_21 : decode cX2_holds 21 = .ok (.iconst 0, 1) := by decide +kernel
theorem dX2_holds_22 : decode cX2_holds 22 = .ok (.ireturn, 1) := by decide +kernel
def f_X2_holds (p1 : Int32) (M : Mem) : Bool :=
  if (f_X4_isBlockPointer p1) then if (M 15 p1.toNatClampNeg) = (-1) then false
    else true
  else false
set_option maxRecDepth 100000 in
set_option maxHeartbeats 4000000 in
theorem k_X2_holds (q : ZQ) (p1 : Int32) (M : Mem) : Zc (zgX q) mX2_holds 0 0 [.inr 3, .inl p1] M (wB M (f_X2_holds p1 M)) := by
  refine Zc.of (by decide) zi_X2_holds.1 (Nat.le_of_ble_eq_true rfl) rfl ?_
  show Zg _ _ _ _ _ _ (zlet (f_X2_holds p1 M) (wB M)) _ _ _ _
  unfold f_X2_holds
  refine zg_iload_n (x := p1) dX2_holds_0 rfl ?_
  refine zg_cN1 (As := [.inl p1]) (S := []) (v := bI ((f_X4_isBlockPointer p1))) dX2_holds_1 zk_X2_25 (k_X4_isBlockPointer q p1 M) rfl ⟨by decide, by decide⟩ ⟨by decide, by decide⟩ rfl (Nat.le_of_ble_eq_true rfl) ?_
  refine zg_st (pc' := 4) (L' := [some (.inr 3), some (.inl p1)]) (S' := [.inl (bI ((f_X4_isBlockPointer p1)))]) (M' := M) rfl rfl rfl rfl ?_
  refine zg_ifbe (tgt := 21) dX2_holds_4 rfl (fun c4 => ?_) (fun c4 => ?_)
  · refine zg_st (pc' := 7) (L' := [some (.inr 3), some (.inl p1)]) (S' := []) (M' := M) rfl rfl rfl rfl ?_
    refine zg_aload_n (x := 3) dX2_holds_7 rfl ?_
    refine zg_getf (v := .inr 15) dX2_holds_8 zf_X2_9 rfl rfl rfl ?_
    refine zg_iload_n (x := p1) dX2_holds_11 rfl ?_
    refine zg_iald dX2_holds_12 rfl (by simp only [q_isFile, q_isBlock, q_isBlockOfFile, q_isMirror, q_isSideOfMirror, q_isCell, q_isPlaceNumber, q_isCellOnSide, q_isPointer, q_isBlockPointer, vp_in_iff, Int32.lt_iff_toInt_lt, Int32.le_iff_toInt_le, Int32.reduceToInt] at c4 ⊢; omega) ?_
    refine zg_iconst (v := (-1)) dX2_holds_13 rfl ?_
    refine zg_icmpz (tgt := 21) dX2_holds_14 rfl rfl (fun c14 => ?_) (fun c14 => ?_)
    · refine zg_st (pc' := 21) (L' := [some (.inr 3), some (.inl p1)]) (S' := []) (M' := M) rfl rfl rfl rfl ?_
      refine zg_iconst (v := 0) dX2_holds_21 rfl ?_
      exact zg_iret dX2_holds_22 rfl rfl ⟨by decide, by decide⟩ rfl
    · refine zg_st (pc' := 17) (L' := [some (.inr 3), some (.inl p1)]) (S' := []) (M' := M) rfl rfl rfl rfl ?_
      refine zg_iconst (v := 1) dX2_holds_17 rfl ?_
      refine zg_goto (tgt := 22) dX2_holds_18 rfl ?_
      refine zg_st (pc' := 22) (L' := [some (.inr 3), some (.inl p1)]) (S' := [.inl 1]) (M' := M) rfl rfl rfl rfl ?_
      exact zg_iret dX2_holds_22 rfl rfl ⟨by decide, by decide⟩ rfl
  · refine zg_st (pc' := 21) (L' := [some (.inr 3), some (.inl p1)]) (S' := []) (M' := M) rfl rfl rfl rfl ?_
    refine zg_iconst (v := 0) dX2_holds_21 rfl ?_
    exact zg_iret dX2_holds_22 rfl rfl ⟨by decide, by decide⟩ rfl
theorem dX2_changeOf_0 : decode cX2_changeOf 0 = .ok (.iload_n 1, 1) := by decide +kernel
theorem dX2_changeOf_1 : decode cX2_changeOf 1 = .ok (.invokestatic 25, 3) := by decide +kernel
theorem dX2_changeOf_4 : decode cX2_changeOf 4 = .ok (.ifCond .eq 12, 3) := by decide +kernel
theorem dX2_changeOf_7 : decode cX2_changeOf 7 = .ok (.aload_n 0, 1) := by decide +kernel
theorem dX2_changeOf_8 : decode cX2_changeOf 8 = .ok (.getfield 9, 3) := by decide +kernel
theorem dX2_changeOf_11 : decode cX2_changeOf 11 = .ok (.iload_n 1, 1) := by decide +kernel
theorem dX2_changeOf_12 : decode cX2_changeOf 12 = .ok (.iaload, 1) := by decide +kernel
theorem dX2_changeOf_13 : decode cX2_changeOf 13 = .ok (.goto 4, 3) := by decide +kernel
theorem dX2_changeOf_16 : decode cX2_changeOf 16 = .ok (.iconst (-1), 1) := by decide +kernel
theorem dX2_changeOf_17 : decode cX2_changeOf 17 = .ok (.ireturn, 1) := by decide +kernel
def f_X2_changeOf (p1 : Int32) (M : Mem) : Int32 :=
  if (f_X4_isBlockPointer p1) then (M 15 p1.toNatClampNeg)
  else (-1)
set_option maxRecDepth 100000 in
set_option maxHeartbeats 4000000 in
theorem k_X2_changeOf (q : ZQ) (p1 : Int32) (M : Mem) : Zc (zgX q) mX2_changeOf 0 0 [.inr 3, .inl p1] M (wI M (f_X2_changeOf p1 M)) := by
  refine Zc.of (by decide) zi_X2_changeOf.1 (Nat.le_of_ble_eq_true rfl) rfl ?_
  show Zg _ _ _ _ _ _ (zlet (f_X2_changeOf p1 M) (wI M)) _ _ _ _
  unfold f_X2_changeOf
  refine zg_iload_n (x := p1) dX2_changeOf_0 rfl ?_
  refine zg_cN1 (As := [.inl p1]) (S := []) (v := bI ((f_X4_isBlockPointer p1))) dX2_changeOf_1 zk_X2_25 (k_X4_isBlockPointer q p1 M) rfl ⟨by decide, by decide⟩ ⟨by decide, by decide⟩ rfl (Nat.le_of_ble_eq_true rfl) ?_
  refine zg_st (pc' := 4) (L' := [some (.inr 3), some (.inl p1)]) (S' := [.inl (bI ((f_X4_isBlockPointer p1)))]) (M' := M) rfl rfl rfl rfl ?_
  refine zg_ifbe (tgt := 16) dX2_changeOf_4 rfl (fun c4 => ?_) (fun c4 => ?_)
  · refine zg_st (pc' := 7) (L' := [some (.inr 3), some (.inl p1)]) (S' := []) (M' := M) rfl rfl rfl rfl ?_
    refine zg_aload_n (x := 3) dX2_changeOf_7 rfl ?_
    refine zg_getf (v := .inr 15) dX2_changeOf_8 zf_X2_9 rfl rfl rfl ?_
    refine zg_iload_n (x := p1) dX2_changeOf_11 rfl ?_
    refine zg_iald dX2_changeOf_12 rfl (by simp only [q_isFile, q_isBlock, q_isBlockOfFile, q_isMirror, q_isSideOfMirror, q_isCell, q_isPlaceNumber, q_isCellOnSide, q_isPointer, q_isBlockPointer, vp_in_iff, Int32.lt_iff_toInt_lt, Int32.le_iff_toInt_le, Int32.reduceToInt] at c4 ⊢; omega) ?_
    refine zg_goto (tgt := 17) dX2_changeOf_13 rfl ?_
    refine zg_st (pc' := 17) (L' := [some (.inr 3), some (.inl p1)]) (S' := [.inl (M 15 p1.toNatClampNeg)]) (M' := M) rfl rfl rfl rfl ?_
    exact zg_iret dX2_changeOf_17 rfl rfl ⟨by decide, by decide⟩ rfl
  · refine zg_st (pc' := 16) (L' := [some (.inr 3), some (.inl p1)]) (S' := []) (M' := M) rfl rfl rfl rfl ?_
    refine zg_iconst (v := (-1)) dX2_changeOf_16 rfl ?_
    exact zg_iret dX2_changeOf_17 rfl rfl ⟨by decide, by decide⟩ rfl
theorem dX3_valueOf_0 : decode cX3_valueOf 0 = .ok (.iload_n 1, 1) := by decide +kernel
theorem dX3_valueOf_1 : decode cX3_valueOf 1 = .ok (.invokestatic 33, 3) := by decide +kernel
theorem dX3_valueOf_4 : decode cX3_valueOf 4 = .ok (.ifCond .eq 12, 3) := by decide +kernel
theorem dX3_valueOf_7 : decode cX3_valueOf 7 = .ok (.aload_n 0, 1) := by decide +kernel
theorem dX3_valueOf_8 : decode cX3_valueOf 8 = .ok (.getfield 9, 3) := by decide +kernel
theorem dX3_valueOf_11 : decode cX3_valueOf 11 = .ok (.iload_n 1, 1) := by decide +kernel
theorem dX3_valueOf_12 : decode cX3_valueOf 12 = .ok (.iaload, 1) := by decide +kernel
theorem dX3_valueOf_13 : decode cX3_valueOf 13 = .ok (.goto 4, 3) := by decide +kernel
theorem dX3_valueOf_16 : decode cX3_valueOf 16 = .ok (.iconst 0, 1) := by decide +kernel
theorem dX3_valueOf_17 : decode cX3_valueOf 17 = .ok (.ireturn, 1) := by decide +kernel
def f_X3_valueOf (p1 : Int32) (M : Mem) : Int32 :=
  if (f_X4_isBlockPointer p1) then (M 10 p1.toNatClampNeg)
  else 0
set_option maxRecDepth 100000 in
set_option maxHeartbeats 4000000 in
theorem k_X3_valueOf (q : ZQ) (p1 : Int32) (M : Mem) : Zc (zgX q) mX3_valueOf 0 0 [.inr 2, .inl p1] M (wI M (f_X3_valueOf p1 M)) := by
  refine Zc.of (by decide) zi_X3_valueOf.1 (Nat.le_of_ble_eq_true rfl) rfl ?_
  show Zg _ _ _ _ _ _ (zlet (f_X3_valueOf p1 M) (wI M)) _ _ _ _
  unfold f_X3_valueOf
  refine zg_iload_n (x := p1) dX3_valueOf_0 rfl ?_
  refine zg_cN1 (As := [.inl p1]) (S := []) (v := bI ((f_X4_isBlockPointer p1))) dX3_valueOf_1 zk_X3_33 (k_X4_isBlockPointer q p1 M) rfl ⟨by decide, by decide⟩ ⟨by decide, by decide⟩ rfl (Nat.le_of_ble_eq_true rfl) ?_
  refine zg_st (pc' := 4) (L' := [some (.inr 2), some (.inl p1)]) (S' := [.inl (bI ((f_X4_isBlockPointer p1)))]) (M' := M) rfl rfl rfl rfl ?_
  refine zg_ifbe (tgt := 16) dX3_valueOf_4 rfl (fun c4 => ?_) (fun c4 => ?_)
  · refine zg_st (pc' := 7) (L' := [some (.inr 2), some (.inl p1)]) (S' := []) (M' := M) rfl rfl rfl rfl ?_
    refine zg_aload_n (x := 2) dX3_valueOf_7 rfl ?_
    refine zg_getf (v := .inr 10) dX3_valueOf_8 zf_X3_9 rfl rfl rfl ?_
    refine zg_iload_n (x := p1) dX3_valueOf_11 rfl ?_
    refine zg_iald dX3_valueOf_12 rfl (by simp only [q_isFile, q_isBlock, q_isBlockOfFile, q_isMirror, q_isSideOfMirror, q_isCell, q_isPlaceNumber, q_isCellOnSide, q_isPointer, q_isBlockPointer, vp_in_iff, Int32.lt_iff_toInt_lt, Int32.le_iff_toInt_le, Int32.reduceToInt] at c4 ⊢; omega) ?_
    refine zg_goto (tgt := 17) dX3_valueOf_13 rfl ?_
    refine zg_st (pc' := 17) (L' := [some (.inr 2), some (.inl p1)]) (S' := [.inl (M 10 p1.toNatClampNeg)]) (M' := M) rfl rfl rfl rfl ?_
    exact zg_iret dX3_valueOf_17 rfl rfl ⟨by decide, by decide⟩ rfl
  · refine zg_st (pc' := 16) (L' := [some (.inr 2), some (.inl p1)]) (S' := []) (M' := M) rfl rfl rfl rfl ?_
    refine zg_iconst (v := 0) dX3_valueOf_16 rfl ?_
    exact zg_iret dX3_valueOf_17 rfl rfl ⟨by decide, by decide⟩ rfl
theorem dX2_change_0 : decode cX2_change 0 = .ok (.iload_n 1, 1) := by decide +kernel
theorem dX2_change_1 : decode cX2_change 1 = .ok (.invokestatic 25, 3) := by decide +kernel
theorem dX2_change_4 : decode cX2_change 4 = .ok (.ifCond .eq 10, 3) := by decide +kernel
theorem dX2_change_7 : decode cX2_change 7 = .ok (.aload_n 0, 1) := by decide +kernel
theorem dX2_change_8 : decode cX2_change 8 = .ok (.getfield 9, 3) := by decide +kernel
theorem dX2_change_11 : decode cX2_change 11 = .ok (.iload_n 1, 1) := by decide +kernel
theorem dX2_change_12 : decode cX2_change 12 = .ok (.iload_n 2, 1) := by decide +kernel
theorem dX2_change_13 : decode cX2_change 13 = .ok (.iastore, 1) := by decide +kernel
theorem dX2_change_14 : decode cX2_change 14 = .ok (.return_, 1) := by decide +kernel
def f_X2_change (p1 : Int32) (p2 : Int32) (M : Mem) : Mem :=
  if (f_X4_isBlockPointer p1) then (mup M 15 p1.toNatClampNeg p2)
  else M
set_option maxRecDepth 100000 in
set_option maxHeartbeats 4000000 in
theorem k_X2_change (q : ZQ) (p1 : Int32) (p2 : Int32) (M : Mem) : Zc (zgX q) mX2_change 0 0 [.inr 3, .inl p1, .inl p2] M (wV (f_X2_change p1 p2 M)) := by
  refine Zc.of (by decide) zi_X2_change.1 (Nat.le_of_ble_eq_true rfl) rfl ?_
  show Zg _ _ _ _ _ _ (zlet (f_X2_change p1 p2 M) wV) _ _ _ _
  unfold f_X2_change
  refine zg_iload_n (x := p1) dX2_change_0 rfl ?_
  refine zg_cN1 (As := [.inl p1]) (S := []) (v := bI ((f_X4_isBlockPointer p1))) dX2_change_1 zk_X2_25 (k_X4_isBlockPointer q p1 M) rfl ⟨by decide, by decide⟩ ⟨by decide, by decide⟩ rfl (Nat.le_of_ble_eq_true rfl) ?_
  refine zg_st (pc' := 4) (L' := [some (.inr 3), some (.inl p1), some (.inl p2)]) (S' := [.inl (bI ((f_X4_isBlockPointer p1)))]) (M' := M) rfl rfl rfl rfl ?_
  refine zg_ifbe (tgt := 14) dX2_change_4 rfl (fun c4 => ?_) (fun c4 => ?_)
  · refine zg_st (pc' := 7) (L' := [some (.inr 3), some (.inl p1), some (.inl p2)]) (S' := []) (M' := M) rfl rfl rfl rfl ?_
    refine zg_aload_n (x := 3) dX2_change_7 rfl ?_
    refine zg_getf (v := .inr 15) dX2_change_8 zf_X2_9 rfl rfl rfl ?_
    refine zg_iload_n (x := p1) dX2_change_11 rfl ?_
    refine zg_iload_n (x := p2) dX2_change_12 rfl ?_
    refine zg_iast dX2_change_13 rfl (by simp only [q_isFile, q_isBlock, q_isBlockOfFile, q_isMirror, q_isSideOfMirror, q_isCell, q_isPlaceNumber, q_isCellOnSide, q_isPointer, q_isBlockPointer, vp_in_iff, Int32.lt_iff_toInt_lt, Int32.le_iff_toInt_le, Int32.reduceToInt] at c4 ⊢; omega) ?_
    exact zg_vret dX2_change_14 rfl ⟨by decide, by decide⟩ rfl
  · refine zg_st (pc' := 14) (L' := [some (.inr 3), some (.inl p1), some (.inl p2)]) (S' := []) (M' := M) rfl rfl rfl rfl ?_
    exact zg_vret dX2_change_14 rfl ⟨by decide, by decide⟩ rfl
theorem dX3_placeOf_0 : decode cX3_placeOf 0 = .ok (.iload_n 1, 1) := by decide +kernel
theorem dX3_placeOf_1 : decode cX3_placeOf 1 = .ok (.invokestatic 41, 3) := by decide +kernel
theorem dX3_placeOf_4 : decode cX3_placeOf 4 = .ok (.ifCond .ne 5, 3) := by decide +kernel
theorem dX3_placeOf_7 : decode cX3_placeOf 7 = .ok (.iconst (-1), 1) := by decide +kernel
theorem dX3_placeOf_8 : decode cX3_placeOf 8 = .ok (.ireturn, 1) := by decide +kernel
theorem dX3_placeOf_9 : decode cX3_placeOf 9 = .ok (.iload_n 2, 1) := by decide +kernel
theorem dX3_placeOf_10 : decode cX3_placeOf 10 = .ok (.ifCond .ne 10, 3) := by decide +kernel
theorem dX3_placeOf_13 : decode cX3_placeOf 13 = .ok (.aload_n 0, 1) := by decide +kernel
theorem dX3_placeOf_14 : decode cX3_placeOf 14 = .ok (.getfield 21, 3) := by decide +kernel
theorem dX3_placeOf_17 : decode cX3_placeOf 17 = .ok (.iload_n 1, 1) := by decide +kernel
theorem dX3_placeOf_18 : decode cX3_placeOf 18 = .ok (.iaload, 1) := by decide +kernel
theorem dX3_placeOf_19 : decode cX3_placeOf 19 = .ok (.ireturn, 1) := by decide +kernel
theorem dX3_placeOf_20 : decode cX3_placeOf 20 = .ok (.iload_n 2, 1) := by decide +kernel
theorem dX3_placeOf_21 : decode cX3_placeOf 21 = .ok (.iconst 1, 1) := by decide +kernel
theorem dX3_placeOf_22 : decode cX3_placeOf 22 = .ok (.if_icmp .ne 12, 3) := by decide +kernel
theorem dX3_placeOf_25 : decode cX3_placeOf 25 = .ok (.aload_n 0, 1) := by decide +kernel
theorem dX3_placeOf_26 : decode cX3_placeOf 26 = .ok (.getfield 24, 3) := by decide +kernel
theorem dX3_placeOf_29 : decode cX3_placeOf 29 = .ok (.iload_n 1, 1) := by decide +kernel
theorem dX3_placeOf_30 : decode cX3_placeOf 30 = .ok (.iaload, 1) := by decide +kernel
theorem dX3_placeOf_31 : decode cX3_placeOf 31 = .ok (.goto 4, 3) := by decide +kernel
theorem dX3_placeOf_34 : decode cX3_placeOf 34 = .ok (.iconst (-1), 1) := by decide +kernel
theorem dX3_placeOf_35 : decode cX3_placeOf 35 = .ok (.ireturn, 1) := by decide +kernel
def f_X3_placeOf (p1 : Int32) (p2 : Int32) (M : Mem) : Int32 :=
  if (f_X4_isPointer p1) then if ¬ p2 = 0 then if ¬ p2 = 1 then (-1)
      else (M 12 p1.toNatClampNeg)
    else (M 11 p1.toNatClampNeg)
  else (-1)
set_option maxRecDepth 100000 in
set_option maxHeartbeats 4000000 in
theorem k_X3_placeOf (q : ZQ) (p1 : Int32) (p2 : Int32) (M : Mem) : Zc (zgX q) mX3_placeOf 0 0 [.inr 2, .inl p1, .inl p2] M (wI M (f_X3_placeOf p1 p2 M)) := by
  refine Zc.of (by decide) zi_X3_placeOf.1 (Nat.le_of_ble_eq_true rfl) rfl ?_
  show Zg _ _ _ _ _ _ (zlet (f_X3_placeOf p1 p2 M) (wI M)) _ _ _ _
  unfold f_X3_placeOf
  refine zg_iload_n (x := p1) dX3_placeOf_0 rfl ?_
  refine zg_cN1 (As := [.inl p1]) (S := []) (v := bI ((f_X4_isPointer p1))) dX3_placeOf_1 zk_X3_41 (k_X4_isPointer q p1 M) rfl ⟨by decide, by decide⟩ ⟨by decide, by decide⟩ rfl (Nat.le_of_ble_eq_true rfl) ?_
  refine zg_st (pc' := 4) (L' := [some (.inr 2), some (.inl p1), some (.inl p2)]) (S' := [.inl (bI ((f_X4_isPointer p1)))]) (M' := M) rfl rfl rfl rfl ?_
  refine zg_ifbn (tgt := 9) dX3_placeOf_4 rfl (fun c4 => ?_) (fun c4 => ?_)
  · refine zg_st (pc' := 9) (L' := [some (.inr 2), some (.inl p1), some (.inl p2)]) (S' := []) (M' := M) rfl rfl rfl rfl ?_
    refine zg_iload_n (x := p2) dX3_placeOf_9 rfl ?_
    refine zg_ifz (tgt := 20) dX3_placeOf_10 rfl rfl (fun c10 => ?_) (fun c10 => ?_)
    · refine zg_st (pc' := 20) (L' := [some (.inr 2), some (.inl p1), some (.inl p2)]) (S' := []) (M' := M) rfl rfl rfl rfl ?_
      refine zg_iload_n (x := p2) dX3_placeOf_20 rfl ?_
      refine zg_iconst (v := 1) dX3_placeOf_21 rfl ?_
      refine zg_icmpz (tgt := 34) dX3_placeOf_22 rfl rfl (fun c22 => ?_) (fun c22 => ?_)
      · refine zg_st (pc' := 34) (L' := [some (.inr 2), some (.inl p1), some (.inl p2)]) (S' := []) (M' := M) rfl rfl rfl rfl ?_
        refine zg_iconst (v := (-1)) dX3_placeOf_34 rfl ?_
        exact zg_iret dX3_placeOf_35 rfl rfl ⟨by decide, by decide⟩ rfl
      · refine zg_st (pc' := 25) (L' := [some (.inr 2), some (.inl p1), some (.inl p2)]) (S' := []) (M' := M) rfl rfl rfl rfl ?_
        refine zg_aload_n (x := 2) dX3_placeOf_25 rfl ?_
        refine zg_getf (v := .inr 12) dX3_placeOf_26 zf_X3_24 rfl rfl rfl ?_
        refine zg_iload_n (x := p1) dX3_placeOf_29 rfl ?_
        refine zg_iald dX3_placeOf_30 rfl (by simp only [q_isFile, q_isBlock, q_isBlockOfFile, q_isMirror, q_isSideOfMirror, q_isCell, q_isPlaceNumber, q_isCellOnSide, q_isPointer, q_isBlockPointer, vp_in_iff, Int32.lt_iff_toInt_lt, Int32.le_iff_toInt_le, Int32.reduceToInt] at c4 c10 c22 ⊢; omega) ?_
        refine zg_goto (tgt := 35) dX3_placeOf_31 rfl ?_
        refine zg_st (pc' := 35) (L' := [some (.inr 2), some (.inl p1), some (.inl p2)]) (S' := [.inl (M 12 p1.toNatClampNeg)]) (M' := M) rfl rfl rfl rfl ?_
        exact zg_iret dX3_placeOf_35 rfl rfl ⟨by decide, by decide⟩ rfl
    · refine zg_st (pc' := 13) (L' := [some (.inr 2), some (.inl p1), some (.inl p2)]) (S' := []) (M' := M) rfl rfl rfl rfl ?_
      refine zg_aload_n (x := 2) dX3_placeOf_13 rfl ?_
      refine zg_getf (v := .inr 11) dX3_placeOf_14 zf_X3_21 rfl rfl rfl ?_
      refine zg_iload_n (x := p1) dX3_placeOf_17 rfl ?_
      refine zg_iald dX3_placeOf_18 rfl (by simp only [q_isFile, q_isBlock, q_isBlockOfFile, q_isMirror, q_isSideOfMirror, q_isCell, q_isPlaceNumber, q_isCellOnSide, q_isPointer, q_isBlockPointer, vp_in_iff, Int32.lt_iff_toInt_lt, Int32.le_iff_toInt_le, Int32.reduceToInt] at c4 c10 ⊢; omega) ?_
      exact zg_iret dX3_placeOf_19 rfl rfl ⟨by decide, by decide⟩ rfl
  · refine zg_st (pc' := 7) (L' := [some (.inr 2), some (.inl p1), some (.inl p2)]) (S' := []) (M' := M) rfl rfl rfl rfl ?_
    refine zg_iconst (v := (-1)) dX3_placeOf_7 rfl ?_
    exact zg_iret dX3_placeOf_8 rfl rfl ⟨by decide, by decide⟩ rfl
theorem dX3_isMissing_0 : decode cX3_isMissing 0 = .ok (.aload_n 0, 1) := by decide +kernel
theorem dX3_isMissing_1 : decode cX3_isMissing 1 = .ok (.iload_n 1, 1) := by decide +kernel
theorem dX3_isMissing_2 : decode cX3_isMissing 2 = .ok (.iconst 0, 1) := by decide +kernel
theorem dX3_isMissing_3 : decode cX3_isMissing 3 = .ok (.invokevirtual 37, 3) := by decide +kernel
theorem dX3_isMissing_6 : decode cX3_isMissing 6 = .ok (.iconst (-1), 1) := by decide +kernel
theorem dX3_isMissing_7 : decode cX3_isMissing 7 = .ok (.if_icmp .ne 7, 3) := by decide +kernel
theorem dX3_isMissing_10 : decode cX3_isMissing 10 = .ok (.iconst 1, 1) := by decide +kernel
theorem dX3_isMissing_11 : decode cX3_isMissing 11 = .ok (.goto 4, 3) := by decide +kernel
theorem dX3_isMissing_14 : decode cX3_isMissing 14 = .ok (.iconst 0, 1) := by decide +kernel
theorem dX3_isMissing_15 : decode cX3_isMissing 15 = .ok (.ireturn, 1) := by decide +kernel
def f_X3_isMissing (p1 : Int32) (M : Mem) : Bool :=
  if ¬ (f_X3_placeOf p1 0 M) = (-1) then false
  else true
set_option maxRecDepth 100000 in
set_option maxHeartbeats 4000000 in
theorem k_X3_isMissing (q : ZQ) (p1 : Int32) (M : Mem) : Zc (zgX q) mX3_isMissing 0 0 [.inr 2, .inl p1] M (wB M (f_X3_isMissing p1 M)) := by
  refine Zc.of (by decide) zi_X3_isMissing.1 (Nat.le_of_ble_eq_true rfl) rfl ?_
  show Zg _ _ _ _ _ _ (zlet (f_X3_isMissing p1 M) (wB M)) _ _ _ _
  unfold f_X3_isMissing
  refine zg_aload_n (x := 2) dX3_isMissing_0 rfl ?_
  refine zg_iload_n (x := p1) dX3_isMissing_1 rfl ?_
  refine zg_iconst (v := 0) dX3_isMissing_2 rfl ?_
  refine zg_cV1 (As := [.inl p1, .inl 0]) (S := []) (v := (f_X3_placeOf p1 0 M)) dX3_isMissing_3 zk_X3_37 (k_X3_placeOf q p1 0 M) rfl rfl ⟨by decide, by decide⟩ ⟨by decide, by decide⟩ rfl (Nat.le_of_ble_eq_true rfl) ?_
  refine zg_st (pc' := 6) (L' := [some (.inr 2), some (.inl p1)]) (S' := [.inl (f_X3_placeOf p1 0 M)]) (M' := M) rfl rfl rfl rfl ?_
  refine zg_iconst (v := (-1)) dX3_isMissing_6 rfl ?_
  refine zg_icmpz (tgt := 14) dX3_isMissing_7 rfl rfl (fun c7 => ?_) (fun c7 => ?_)
  · refine zg_st (pc' := 14) (L' := [some (.inr 2), some (.inl p1)]) (S' := []) (M' := M) rfl rfl rfl rfl ?_
    refine zg_iconst (v := 0) dX3_isMissing_14 rfl ?_
    exact zg_iret dX3_isMissing_15 rfl rfl ⟨by decide, by decide⟩ rfl
  · refine zg_st (pc' := 10) (L' := [some (.inr 2), some (.inl p1)]) (S' := []) (M' := M) rfl rfl rfl rfl ?_
    refine zg_iconst (v := 1) dX3_isMissing_10 rfl ?_
    refine zg_goto (tgt := 15) dX3_isMissing_11 rfl ?_
    refine zg_st (pc' := 15) (L' := [some (.inr 2), some (.inl p1)]) (S' := [.inl 1]) (M' := M) rfl rfl rfl rfl ?_
    exact zg_iret dX3_isMissing_15 rfl rfl ⟨by decide, by decide⟩ rfl
theorem dX0_isGood_0 : decode cX0_isGood 0 = .ok (.iload_n 1, 1) := by decide +kernel
theorem dX0_isGood_1 : decode cX0_isGood 1 = .ok (.iload_n 2, 1) := by decide +kernel
theorem dX0_isGood_2 : decode cX0_isGood 2 = .ok (.invokestatic 40, 3) := by decide +kernel
theorem dX0_isGood_5 : decode cX0_isGood 5 = .ok (.ifCond .eq 46, 3) := by decide +kernel
theorem dX0_isGood_8 : decode cX0_isGood 8 = .ok (.aload_n 0, 1) := by decide +kernel
theorem dX0_isGood_9 : decode cX0_isGood 9 = .ok (.getfield 9, 3) := by decide +kernel
theorem dX0_isGood_12 : decode cX0_isGood 12 = .ok (.iload_n 1, 1) := by decide +kernel
theorem dX0_isGood_13 : decode cX0_isGood 13 = .ok (.baload, 1) := by decide +kernel
theorem dX0_isGood_14 : decode cX0_isGood 14 = .ok (.ifCond .eq 37, 3) := by decide +kernel
theorem dX0_isGood_17 : decode cX0_isGood 17 = .ok (.aload_n 0, 1) := by decide +kernel
theorem dX0_isGood_18 : decode cX0_isGood 18 = .ok (.getfield 18, 3) := by decide +kernel
theorem dX0_isGood_21 : decode cX0_isGood 21 = .ok (.iload_n 1, 1) := by decide +kernel
theorem dX0_isGood_22 : decode cX0_isGood 22 = .ok (.invokestatic 43, 3) := by decide +kernel
theorem dX0_isGood_25 : decode cX0_isGood 25 = .ok (.iconst 2, 1) := by decide +kernel
theorem dX0_isGood_26 : decode cX0_isGood 26 = .ok (.imul, 1) := by decide +kernel
theorem dX0_isGood_27 : decode cX0_isGood 27 = .ok (.iload_n 2, 1) := by decide +kernel
theorem dX0_isGood_28 : decode cX0_isGood 28 = .ok (.iadd, 1) := by decide +kernel
theorem dX0_isGood_29 : decode cX0_isGood 29 = .ok (.baload, 1) := by decide +kernel
theorem dX0_isGood_30 : decode cX0_isGood 30 = .ok (.ifCond .ne 21, 3) := by decide +kernel
theorem dX0_isGood_33 : decode cX0_isGood 33 = .ok (.aload_n 0, 1) := by decide +kernel
theorem dX0_isGood_34 : decode cX0_isGood 34 = .ok (.getfield 15, 3) := by decide +kernel
theorem dX0_isGood_37 : decode cX0_isGood 37 = .ok (.iload_n 2, 1) := by decide +kernel
theorem dX0_isGood_38 : decode cX0_isGood 38 = .ok (.bipush 120, 2) := by decide +kernel
theorem dX0_isGood_40 : decode cX0_isGood 40 = .ok (.imul, 1) := by decide +kernel
theorem dX0_isGood_41 : decode cX0_isGood 41 = .ok (.iload_n 1, 1) := by decide +kernel
theorem dX0_isGood_42 : decode cX0_isGood 42 = .ok (.iadd, 1) := by decide +kernel
theorem dX0_isGood_43 : decode cX0_isGood 43 = .ok (.baload, 1) := by decide +kernel
theorem dX0_isGood_44 : decode cX0_isGood 44 = .ok (.ifCond .ne 7, 3) := by decide +kernel
theorem dX0_isGood_47 : decode cX0_isGood 47 = .ok (.iconst 1, 1) := by decide +kernel
theorem dX0_isGood_48 : decode cX0_isGood 48 = .ok (.goto 4, 3) := by decide +kernel
theorem dX0_isGood_51 : decode cX0_isGood 51 = .ok (.iconst 0, 1) := by decide +kernel
theorem dX0_isGood_52 : decode cX0_isGood 52 = .ok (.ireturn, 1) := by decide +kernel
def f_X0_isGood (p1 : Int32) (p2 : Int32) (M : Mem) : Bool :=
  if (f_X4_isCellOnSide p1 p2) then if (M 6 p1.toNatClampNeg) = 0 then false
    else if ¬ (M 8 (((f_X4_mirrorOf p1) * 2) + p2).toNatClampNeg) = 0 then false
    else if ¬ (M 7 ((p2 * 120) + p1).toNatClampNeg) = 0 then false
    else true
  else false
set_option maxRecDepth 100000 in
set_option maxHeartbeats 4000000 in
theorem k_X0_isGood (q : ZQ) (p1 : Int32) (p2 : Int32) (M : Mem) : Zc (zgX q) mX0_isGood 0 0 [.inr 1, .inl p1, .inl p2] M (wB M (f_X0_isGood p1 p2 M)) := by
  refine Zc.of (by decide) zi_X0_isGood.1 (Nat.le_of_ble_eq_true rfl) rfl ?_
  show Zg _ _ _ _ _ _ (zlet (f_X0_isGood p1 p2 M) (wB M)) _ _ _ _
  unfold f_X0_isGood
  refine zg_iload_n (x := p1) dX0_isGood_0 rfl ?_
  refine zg_iload_n (x := p2) dX0_isGood_1 rfl ?_
  refine zg_cN1 (As := [.inl p1, .inl p2]) (S := []) (v := bI ((f_X4_isCellOnSide p1 p2))) dX0_isGood_2 zk_X0_40 (k_X4_isCellOnSide q p1 p2 M) rfl ⟨by decide, by decide⟩ ⟨by decide, by decide⟩ rfl (Nat.le_of_ble_eq_true rfl) ?_
  refine zg_st (pc' := 5) (L' := [some (.inr 1), some (.inl p1), some (.inl p2)]) (S' := [.inl (bI ((f_X4_isCellOnSide p1 p2)))]) (M' := M) rfl rfl rfl rfl ?_
  refine zg_ifbe (tgt := 51) dX0_isGood_5 rfl (fun c5 => ?_) (fun c5 => ?_)
  · refine zg_st (pc' := 8) (L' := [some (.inr 1), some (.inl p1), some (.inl p2)]) (S' := []) (M' := M) rfl rfl rfl rfl ?_
    refine zg_aload_n (x := 1) dX0_isGood_8 rfl ?_
    refine zg_getf (v := .inr 6) dX0_isGood_9 zf_X0_9 rfl rfl rfl ?_
    refine zg_iload_n (x := p1) dX0_isGood_12 rfl ?_
    refine zg_zald dX0_isGood_13 rfl (by simp only [q_isFile, q_isBlock, q_isBlockOfFile, q_isMirror, q_isSideOfMirror, q_isCell, q_isPlaceNumber, q_isCellOnSide, q_isPointer, q_isBlockPointer, vp_in_iff, Int32.lt_iff_toInt_lt, Int32.le_iff_toInt_le, Int32.reduceToInt] at c5 ⊢; omega) ?_
    refine zg_ifz (tgt := 51) dX0_isGood_14 rfl rfl (fun c14 => ?_) (fun c14 => ?_)
    · refine zg_st (pc' := 51) (L' := [some (.inr 1), some (.inl p1), some (.inl p2)]) (S' := []) (M' := M) rfl rfl rfl rfl ?_
      refine zg_iconst (v := 0) dX0_isGood_51 rfl ?_
      exact zg_iret dX0_isGood_52 rfl rfl ⟨by decide, by decide⟩ rfl
    · refine zg_st (pc' := 17) (L' := [some (.inr 1), some (.inl p1), some (.inl p2)]) (S' := []) (M' := M) rfl rfl rfl rfl ?_
      refine zg_aload_n (x := 1) dX0_isGood_17 rfl ?_
      refine zg_getf (v := .inr 8) dX0_isGood_18 zf_X0_18 rfl rfl rfl ?_
      refine zg_iload_n (x := p1) dX0_isGood_21 rfl ?_
      refine zg_cN1 (As := [.inl p1]) (S := [.inr 8]) (v := (f_X4_mirrorOf p1)) dX0_isGood_22 zk_X0_43 (k_X4_mirrorOf q p1 M) rfl ⟨by decide, by decide⟩ ⟨by decide, by decide⟩ rfl (Nat.le_of_ble_eq_true rfl) ?_
      refine zg_st (pc' := 25) (L' := [some (.inr 1), some (.inl p1), some (.inl p2)]) (S' := [.inl (f_X4_mirrorOf p1), .inr 8]) (M' := M) rfl rfl rfl rfl ?_
      refine zg_iconst (v := 2) dX0_isGood_25 rfl ?_
      refine zg_imul dX0_isGood_26 ?_
      refine zg_iload_n (x := p2) dX0_isGood_27 rfl ?_
      refine zg_iadd dX0_isGood_28 ?_
      refine zg_zald dX0_isGood_29 rfl (z_ixm (by simp only [q_isFile, q_isBlock, q_isBlockOfFile, q_isMirror, q_isSideOfMirror, q_isCell, q_isPlaceNumber, q_isCellOnSide, q_isPointer, q_isBlockPointer, vp_in_iff, Int32.lt_iff_toInt_lt, Int32.le_iff_toInt_le, Int32.reduceToInt] at c5 c14 ⊢; omega) (by simp only [q_isFile, q_isBlock, q_isBlockOfFile, q_isMirror, q_isSideOfMirror, q_isCell, q_isPlaceNumber, q_isCellOnSide, q_isPointer, q_isBlockPointer, vp_in_iff, Int32.lt_iff_toInt_lt, Int32.le_iff_toInt_le, Int32.reduceToInt] at c5 c14 ⊢; omega)) ?_
      refine zg_ifz (tgt := 51) dX0_isGood_30 rfl rfl (fun c30 => ?_) (fun c30 => ?_)
      · refine zg_st (pc' := 51) (L' := [some (.inr 1), some (.inl p1), some (.inl p2)]) (S' := []) (M' := M) rfl rfl rfl rfl ?_
        refine zg_iconst (v := 0) dX0_isGood_51 rfl ?_
        exact zg_iret dX0_isGood_52 rfl rfl ⟨by decide, by decide⟩ rfl
      · refine zg_st (pc' := 33) (L' := [some (.inr 1), some (.inl p1), some (.inl p2)]) (S' := []) (M' := M) rfl rfl rfl rfl ?_
        refine zg_aload_n (x := 1) dX0_isGood_33 rfl ?_
        refine zg_getf (v := .inr 7) dX0_isGood_34 zf_X0_15 rfl rfl rfl ?_
        refine zg_iload_n (x := p2) dX0_isGood_37 rfl ?_
        refine zg_bipush (v := 120) dX0_isGood_38 rfl ?_
        refine zg_imul dX0_isGood_40 ?_
        refine zg_iload_n (x := p1) dX0_isGood_41 rfl ?_
        refine zg_iadd dX0_isGood_42 ?_
        refine zg_zald dX0_isGood_43 rfl (z_ix120 (by simp only [q_isFile, q_isBlock, q_isBlockOfFile, q_isMirror, q_isSideOfMirror, q_isCell, q_isPlaceNumber, q_isCellOnSide, q_isPointer, q_isBlockPointer, vp_in_iff, Int32.lt_iff_toInt_lt, Int32.le_iff_toInt_le, Int32.reduceToInt] at c5 c14 c30 ⊢; omega) (by simp only [q_isFile, q_isBlock, q_isBlockOfFile, q_isMirror, q_isSideOfMirror, q_isCell, q_isPlaceNumber, q_isCellOnSide, q_isPointer, q_isBlockPointer, vp_in_iff, Int32.lt_iff_toInt_lt, Int32.le_iff_toInt_le, Int32.reduceToInt] at c5 c14 c30 ⊢; omega)) ?_
        refine zg_ifz (tgt := 51) dX0_isGood_44 rfl rfl (fun c44 => ?_) (fun c44 => ?_)
        · refine zg_st (pc' := 51) (L' := [some (.inr 1), some (.inl p1), some (.inl p2)]) (S' := []) (M' := M) rfl rfl rfl rfl ?_
          refine zg_iconst (v := 0) dX0_isGood_51 rfl ?_
          exact zg_iret dX0_isGood_52 rfl rfl ⟨by decide, by decide⟩ rfl
        · refine zg_st (pc' := 47) (L' := [some (.inr 1), some (.inl p1), some (.inl p2)]) (S' := []) (M' := M) rfl rfl rfl rfl ?_
          refine zg_iconst (v := 1) dX0_isGood_47 rfl ?_
          refine zg_goto (tgt := 52) dX0_isGood_48 rfl ?_
          refine zg_st (pc' := 52) (L' := [some (.inr 1), some (.inl p1), some (.inl p2)]) (S' := [.inl 1]) (M' := M) rfl rfl rfl rfl ?_
          exact zg_iret dX0_isGood_52 rfl rfl ⟨by decide, by decide⟩ rfl
  · refine zg_st (pc' := 51) (L' := [some (.inr 1), some (.inl p1), some (.inl p2)]) (S' := []) (M' := M) rfl rfl rfl rfl ?_
    refine zg_iconst (v := 0) dX0_isGood_51 rfl ?_
    exact zg_iret dX0_isGood_52 rfl rfl ⟨by decide, by decide⟩ rfl
theorem dX0_hasSpoilt_0 : decode cX0_hasSpoilt 0 = .ok (.iload_n 1, 1) := by decide +kernel
theorem dX0_hasSpoilt_1 : decode cX0_hasSpoilt 1 = .ok (.iload_n 2, 1) := by decide +kernel
theorem dX0_hasSpoilt_2 : decode cX0_hasSpoilt 2 = .ok (.invokestatic 40, 3) := by decide +kernel
theorem dX0_hasSpoilt_5 : decode cX0_hasSpoilt 5 = .ok (.ifCond .eq 30, 3) := by decide +kernel
theorem dX0_hasSpoilt_8 : decode cX0_hasSpoilt 8 = .ok (.aload_n 0, 1) := by decide +kernel
theorem dX0_hasSpoilt_9 : decode cX0_hasSpoilt 9 = .ok (.getfield 9, 3) := by decide +kernel
theorem dX0_hasSpoilt_12 : decode cX0_hasSpoilt 12 = .ok (.iload_n 1, 1) := by decide +kernel
theorem dX0_hasSpoilt_13 : decode cX0_hasSpoilt 13 = .ok (.baload, 1) := by decide +kernel
theorem dX0_hasSpoilt_14 : decode cX0_hasSpoilt 14 = .ok (.ifCond .eq 21, 3) := by decide +kernel
theorem dX0_hasSpoilt_17 : decode cX0_hasSpoilt 17 = .ok (.aload_n 0, 1) := by decide +kernel
theorem dX0_hasSpoilt_18 : decode cX0_hasSpoilt 18 = .ok (.getfield 15, 3) := by decide +kernel
theorem dX0_hasSpoilt_21 : decode cX0_hasSpoilt 21 = .ok (.iload_n 2, 1) := by decide +kernel
theorem dX0_hasSpoilt_22 : decode cX0_hasSpoilt 22 = .ok (.bipush 120, 2) := by decide +kernel
theorem dX0_hasSpoilt_24 : decode cX0_hasSpoilt 24 = .ok (.imul, 1) := by decide +kernel
theorem dX0_hasSpoilt_25 : decode cX0_hasSpoilt 25 = .ok (.iload_n 1, 1) := by decide +kernel
theorem dX0_hasSpoilt_26 : decode cX0_hasSpoilt 26 = .ok (.iadd, 1) := by decide +kernel
theorem dX0_hasSpoilt_27 : decode cX0_hasSpoilt 27 = .ok (.baload, 1) := by decide +kernel
theorem dX0_hasSpoilt_28 : decode cX0_hasSpoilt 28 = .ok (.ifCond .eq 7, 3) := by decide +kernel
theorem dX0_hasSpoilt_31 : decode cX0_hasSpoilt 31 = .ok (.iconst 1, 1) := by decide +kernel
theorem dX0_hasSpoilt_32 : decode cX0_hasSpoilt 32 = .ok (.goto 4, 3) := by decide +kernel
theorem dX0_hasSpoilt_35 : decode cX0_hasSpoilt 35 = .ok (.iconst 0, 1) := by decide +kernel
theorem dX0_hasSpoilt_36 : decode cX0_hasSpoilt 36 = .ok (.ireturn, 1) := by decide +kernel
def f_X0_hasSpoilt (p1 : Int32) (p2 : Int32) (M : Mem) : Bool :=
  if (f_X4_isCellOnSide p1 p2) then if (M 6 p1.toNatClampNeg) = 0 then false
    else if (M 7 ((p2 * 120) + p1).toNatClampNeg) = 0 then false
    else true
  else false
set_option maxRecDepth 100000 in
set_option maxHeartbeats 4000000 in
theorem k_X0_hasSpoilt (q : ZQ) (p1 : Int32) (p2 : Int32) (M : Mem) : Zc (zgX q) mX0_hasSpoilt 0 0 [.inr 1, .inl p1, .inl p2] M (wB M (f_X0_hasSpoilt p1 p2 M)) := by
  refine Zc.of (by decide) zi_X0_hasSpoilt.1 (Nat.le_of_ble_eq_true rfl) rfl ?_
  show Zg _ _ _ _ _ _ (zlet (f_X0_hasSpoilt p1 p2 M) (wB M)) _ _ _ _
  unfold f_X0_hasSpoilt
  refine zg_iload_n (x := p1) dX0_hasSpoilt_0 rfl ?_
  refine zg_iload_n (x := p2) dX0_hasSpoilt_1 rfl ?_
  refine zg_cN1 (As := [.inl p1, .inl p2]) (S := []) (v := bI ((f_X4_isCellOnSide p1 p2))) dX0_hasSpoilt_2 zk_X0_40 (k_X4_isCellOnSide q p1 p2 M) rfl ⟨by decide, by decide⟩ ⟨by decide, by decide⟩ rfl (Nat.le_of_ble_eq_true rfl) ?_
  refine zg_st (pc' := 5) (L' := [some (.inr 1), some (.inl p1), some (.inl p2)]) (S' := [.inl (bI ((f_X4_isCellOnSide p1 p2)))]) (M' := M) rfl rfl rfl rfl ?_
  refine zg_ifbe (tgt := 35) dX0_hasSpoilt_5 rfl (fun c5 => ?_) (fun c5 => ?_)
  · refine zg_st (pc' := 8) (L' := [some (.inr 1), some (.inl p1), some (.inl p2)]) (S' := []) (M' := M) rfl rfl rfl rfl ?_
    refine zg_aload_n (x := 1) dX0_hasSpoilt_8 rfl ?_
    refine zg_getf (v := .inr 6) dX0_hasSpoilt_9 zf_X0_9 rfl rfl rfl ?_
    refine zg_iload_n (x := p1) dX0_hasSpoilt_12 rfl ?_
    refine zg_zald dX0_hasSpoilt_13 rfl (by simp only [q_isFile, q_isBlock, q_isBlockOfFile, q_isMirror, q_isSideOfMirror, q_isCell, q_isPlaceNumber, q_isCellOnSide, q_isPointer, q_isBlockPointer, vp_in_iff, Int32.lt_iff_toInt_lt, Int32.le_iff_toInt_le, Int32.reduceToInt] at c5 ⊢; omega) ?_
    refine zg_ifz (tgt := 35) dX0_hasSpoilt_14 rfl rfl (fun c14 => ?_) (fun c14 => ?_)
    · refine zg_st (pc' := 35) (L' := [some (.inr 1), some (.inl p1), some (.inl p2)]) (S' := []) (M' := M) rfl rfl rfl rfl ?_
      refine zg_iconst (v := 0) dX0_hasSpoilt_35 rfl ?_
      exact zg_iret dX0_hasSpoilt_36 rfl rfl ⟨by decide, by decide⟩ rfl
    · refine zg_st (pc' := 17) (L' := [some (.inr 1), some (.inl p1), some (.inl p2)]) (S' := []) (M' := M) rfl rfl rfl rfl ?_
      refine zg_aload_n (x := 1) dX0_hasSpoilt_17 rfl ?_
      refine zg_getf (v := .inr 7) dX0_hasSpoilt_18 zf_X0_15 rfl rfl rfl ?_
      refine zg_iload_n (x := p2) dX0_hasSpoilt_21 rfl ?_
      refine zg_bipush (v := 120) dX0_hasSpoilt_22 rfl ?_
      refine zg_imul dX0_hasSpoilt_24 ?_
      refine zg_iload_n (x := p1) dX0_hasSpoilt_25 rfl ?_
      refine zg_iadd dX0_hasSpoilt_26 ?_
      refine zg_zald dX0_hasSpoilt_27 rfl (z_ix120 (by simp only [q_isFile, q_isBlock, q_isBlockOfFile, q_isMirror, q_isSideOfMirror, q_isCell, q_isPlaceNumber, q_isCellOnSide, q_isPointer, q_isBlockPointer, vp_in_iff, Int32.lt_iff_toInt_lt, Int32.le_iff_toInt_le, Int32.reduceToInt] at c5 c14 ⊢; omega) (by simp only [q_isFile, q_isBlock, q_isBlockOfFile, q_isMirror, q_isSideOfMirror, q_isCell, q_isPlaceNumber, q_isCellOnSide, q_isPointer, q_isBlockPointer, vp_in_iff, Int32.lt_iff_toInt_lt, Int32.le_iff_toInt_le, Int32.reduceToInt] at c5 c14 ⊢; omega)) ?_
      refine zg_ifz (tgt := 35) dX0_hasSpoilt_28 rfl rfl (fun c28 => ?_) (fun c28 => ?_)
      · refine zg_st (pc' := 35) (L' := [some (.inr 1), some (.inl p1), some (.inl p2)]) (S' := []) (M' := M) rfl rfl rfl rfl ?_
        refine zg_iconst (v := 0) dX0_hasSpoilt_35 rfl ?_
        exact zg_iret dX0_hasSpoilt_36 rfl rfl ⟨by decide, by decide⟩ rfl
      · refine zg_st (pc' := 31) (L' := [some (.inr 1), some (.inl p1), some (.inl p2)]) (S' := []) (M' := M) rfl rfl rfl rfl ?_
        refine zg_iconst (v := 1) dX0_hasSpoilt_31 rfl ?_
        refine zg_goto (tgt := 36) dX0_hasSpoilt_32 rfl ?_
        refine zg_st (pc' := 36) (L' := [some (.inr 1), some (.inl p1), some (.inl p2)]) (S' := [.inl 1]) (M' := M) rfl rfl rfl rfl ?_
        exact zg_iret dX0_hasSpoilt_36 rfl rfl ⟨by decide, by decide⟩ rfl
  · refine zg_st (pc' := 35) (L' := [some (.inr 1), some (.inl p1), some (.inl p2)]) (S' := []) (M' := M) rfl rfl rfl rfl ?_
    refine zg_iconst (v := 0) dX0_hasSpoilt_35 rfl ?_
    exact zg_iret dX0_hasSpoilt_36 rfl rfl ⟨by decide, by decide⟩ rfl
theorem dX0_hasOnline_0 : decode cX0_hasOnline 0 = .ok (.iload_n 1, 1) := by decide +kernel
theorem dX0_hasOnline_1 : decode cX0_hasOnline 1 = .ok (.iload_n 2, 1) := by decide +kernel
theorem dX0_hasOnline_2 : decode cX0_hasOnline 2 = .ok (.invokestatic 25, 3) := by decide +kernel
theorem dX0_hasOnline_5 : decode cX0_hasOnline 5 = .ok (.ifCond .eq 20, 3) := by decide +kernel
theorem dX0_hasOnline_8 : decode cX0_hasOnline 8 = .ok (.aload_n 0, 1) := by decide +kernel
theorem dX0_hasOnline_9 : decode cX0_hasOnline 9 = .ok (.getfield 18, 3) := by decide +kernel
theorem dX0_hasOnline_12 : decode cX0_hasOnline 12 = .ok (.iload_n 1, 1) := by decide +kernel
theorem dX0_hasOnline_13 : decode cX0_hasOnline 13 = .ok (.iconst 2, 1) := by decide +kernel
theorem dX0_hasOnline_14 : decode cX0_hasOnline 14 = .ok (.imul, 1) := by decide +kernel
theorem dX0_hasOnline_15 : decode cX0_hasOnline 15 = .ok (.iload_n 2, 1) := by decide +kernel
theorem dX0_hasOnline_16 : decode cX0_hasOnline 16 = .ok (.iadd, 1) := by decide +kernel
theorem dX0_hasOnline_17 : decode cX0_hasOnline 17 = .ok (.baload, 1) := by decide +kernel
theorem dX0_hasOnline_18 : decode cX0_hasOnline 18 = .ok (.ifCond .ne 7, 3) := by decide +kernel
theorem dX0_hasOnline_21 : decode cX0_hasOnline 21 = .ok (.iconst 1, 1) := by decide +kernel
theorem dX0_hasOnline_22 : decode cX0_hasOnline 22 = .ok (.goto 4, 3) := by decide +kernel
theorem dX0_hasOnline_25 : decode cX0_hasOnline 25 = .ok (.iconst 0, 1) := by decide +kernel
theorem dX0_hasOnline_26 : decode cX0_hasOnline 26 = .ok (.ireturn, 1) := by decide +kernel
def f_X0_hasOnline (p1 : Int32) (p2 : Int32) (M : Mem) : Bool :=
  if (f_X4_isSideOfMirror p1 p2) then if ¬ (M 8 ((p1 * 2) + p2).toNatClampNeg) = 0 then false
    else true
  else false
set_option maxRecDepth 100000 in
set_option maxHeartbeats 4000000 in
theorem k_X0_hasOnline (q : ZQ) (p1 : Int32) (p2 : Int32) (M : Mem) : Zc (zgX q) mX0_hasOnline 0 0 [.inr 1, .inl p1, .inl p2] M (wB M (f_X0_hasOnline p1 p2 M)) := by
  refine Zc.of (by decide) zi_X0_hasOnline.1 (Nat.le_of_ble_eq_true rfl) rfl ?_
  show Zg _ _ _ _ _ _ (zlet (f_X0_hasOnline p1 p2 M) (wB M)) _ _ _ _
  unfold f_X0_hasOnline
  refine zg_iload_n (x := p1) dX0_hasOnline_0 rfl ?_
  refine zg_iload_n (x := p2) dX0_hasOnline_1 rfl ?_
  refine zg_cN1 (As := [.inl p1, .inl p2]) (S := []) (v := bI ((f_X4_isSideOfMirror p1 p2))) dX0_hasOnline_2 zk_X0_25 (k_X4_isSideOfMirror q p1 p2 M) rfl ⟨by decide, by decide⟩ ⟨by decide, by decide⟩ rfl (Nat.le_of_ble_eq_true rfl) ?_
  refine zg_st (pc' := 5) (L' := [some (.inr 1), some (.inl p1), some (.inl p2)]) (S' := [.inl (bI ((f_X4_isSideOfMirror p1 p2)))]) (M' := M) rfl rfl rfl rfl ?_
  refine zg_ifbe (tgt := 25) dX0_hasOnline_5 rfl (fun c5 => ?_) (fun c5 => ?_)
  · refine zg_st (pc' := 8) (L' := [some (.inr 1), some (.inl p1), some (.inl p2)]) (S' := []) (M' := M) rfl rfl rfl rfl ?_
    refine zg_aload_n (x := 1) dX0_hasOnline_8 rfl ?_
    refine zg_getf (v := .inr 8) dX0_hasOnline_9 zf_X0_18 rfl rfl rfl ?_
    refine zg_iload_n (x := p1) dX0_hasOnline_12 rfl ?_
    refine zg_iconst (v := 2) dX0_hasOnline_13 rfl ?_
    refine zg_imul dX0_hasOnline_14 ?_
    refine zg_iload_n (x := p2) dX0_hasOnline_15 rfl ?_
    refine zg_iadd dX0_hasOnline_16 ?_
    refine zg_zald dX0_hasOnline_17 rfl (z_ix2 (by simp only [q_isFile, q_isBlock, q_isBlockOfFile, q_isMirror, q_isSideOfMirror, q_isCell, q_isPlaceNumber, q_isCellOnSide, q_isPointer, q_isBlockPointer, vp_in_iff, Int32.lt_iff_toInt_lt, Int32.le_iff_toInt_le, Int32.reduceToInt] at c5 ⊢; omega) (by simp only [q_isFile, q_isBlock, q_isBlockOfFile, q_isMirror, q_isSideOfMirror, q_isCell, q_isPlaceNumber, q_isCellOnSide, q_isPointer, q_isBlockPointer, vp_in_iff, Int32.lt_iff_toInt_lt, Int32.le_iff_toInt_le, Int32.reduceToInt] at c5 ⊢; omega)) ?_
    refine zg_ifz (tgt := 25) dX0_hasOnline_18 rfl rfl (fun c18 => ?_) (fun c18 => ?_)
    · refine zg_st (pc' := 25) (L' := [some (.inr 1), some (.inl p1), some (.inl p2)]) (S' := []) (M' := M) rfl rfl rfl rfl ?_
      refine zg_iconst (v := 0) dX0_hasOnline_25 rfl ?_
      exact zg_iret dX0_hasOnline_26 rfl rfl ⟨by decide, by decide⟩ rfl
    · refine zg_st (pc' := 21) (L' := [some (.inr 1), some (.inl p1), some (.inl p2)]) (S' := []) (M' := M) rfl rfl rfl rfl ?_
      refine zg_iconst (v := 1) dX0_hasOnline_21 rfl ?_
      refine zg_goto (tgt := 26) dX0_hasOnline_22 rfl ?_
      refine zg_st (pc' := 26) (L' := [some (.inr 1), some (.inl p1), some (.inl p2)]) (S' := [.inl 1]) (M' := M) rfl rfl rfl rfl ?_
      exact zg_iret dX0_hasOnline_26 rfl rfl ⟨by decide, by decide⟩ rfl
  · refine zg_st (pc' := 25) (L' := [some (.inr 1), some (.inl p1), some (.inl p2)]) (S' := []) (M' := M) rfl rfl rfl rfl ?_
    refine zg_iconst (v := 0) dX0_hasOnline_25 rfl ?_
    exact zg_iret dX0_hasOnline_26 rfl rfl ⟨by decide, by decide⟩ rfl
theorem dX0_mark_0 : decode cX0_mark 0 = .ok (.iload_n 1, 1) := by decide +kernel
theorem dX0_mark_1 : decode cX0_mark 1 = .ok (.iload_n 2, 1) := by decide +kernel
theorem dX0_mark_2 : decode cX0_mark 2 = .ok (.invokestatic 40, 3) := by decide +kernel
theorem dX0_mark_5 : decode cX0_mark 5 = .ok (.ifCond .eq 15, 3) := by decide +kernel
theorem dX0_mark_8 : decode cX0_mark 8 = .ok (.aload_n 0, 1) := by decide +kernel
theorem dX0_mark_9 : decode cX0_mark 9 = .ok (.getfield 15, 3) := by decide +kernel
theorem dX0_mark_12 : decode cX0_mark 12 = .ok (.iload_n 2, 1) := by decide +kernel
theorem dX0_mark_13 : decode cX0_mark 13 = .ok (.bipush 120, 2) := by decide +kernel
theorem dX0_mark_15 : decode cX0_mark 15 = .ok (.imul, 1) := by decide +kernel
theorem dX0_mark_16 : decode cX0_mark 16 = .ok (.iload_n 1, 1) := by decide +kernel
theorem dX0_mark_17 : decode cX0_mark 17 = .ok (.iadd, 1) := by decide +kernel
theorem dX0_mark_18 : decode cX0_mark 18 = .ok (.iload_n 3, 1) := by decide +kernel
theorem dX0_mark_19 : decode cX0_mark 19 = .ok (.bastore, 1) := by decide +kernel
theorem dX0_mark_20 : decode cX0_mark 20 = .ok (.return_, 1) := by decide +kernel
def f_X0_mark (p1 : Int32) (p2 : Int32) (p3 : Bool) (M : Mem) : Mem :=
  if (f_X4_isCellOnSide p1 p2) then (mup M 7 ((p2 * 120) + p1).toNatClampNeg (bI p3))
  else M
set_option maxRecDepth 100000 in
set_option maxHeartbeats 4000000 in
theorem k_X0_mark (q : ZQ) (p1 : Int32) (p2 : Int32) (p3 : Bool) (M : Mem) : Zc (zgX q) mX0_mark 0 0 [.inr 1, .inl p1, .inl p2, .inl (bI p3)] M (wV (f_X0_mark p1 p2 p3 M)) := by
  refine Zc.of (by decide) zi_X0_mark.1 (Nat.le_of_ble_eq_true rfl) rfl ?_
  show Zg _ _ _ _ _ _ (zlet (f_X0_mark p1 p2 p3 M) wV) _ _ _ _
  unfold f_X0_mark
  refine zg_iload_n (x := p1) dX0_mark_0 rfl ?_
  refine zg_iload_n (x := p2) dX0_mark_1 rfl ?_
  refine zg_cN1 (As := [.inl p1, .inl p2]) (S := []) (v := bI ((f_X4_isCellOnSide p1 p2))) dX0_mark_2 zk_X0_40 (k_X4_isCellOnSide q p1 p2 M) rfl ⟨by decide, by decide⟩ ⟨by decide, by decide⟩ rfl (Nat.le_of_ble_eq_true rfl) ?_
  refine zg_st (pc' := 5) (L' := [some (.inr 1), some (.inl p1), some (.inl p2), some (.inl (bI p3))]) (S' := [.inl (bI ((f_X4_isCellOnSide p1 p2)))]) (M' := M) rfl rfl rfl rfl ?_
  refine zg_ifbe (tgt := 20) dX0_mark_5 rfl (fun c5 => ?_) (fun c5 => ?_)
  · refine zg_st (pc' := 8) (L' := [some (.inr 1), some (.inl p1), some (.inl p2), some (.inl (bI p3))]) (S' := []) (M' := M) rfl rfl rfl rfl ?_
    refine zg_aload_n (x := 1) dX0_mark_8 rfl ?_
    refine zg_getf (v := .inr 7) dX0_mark_9 zf_X0_15 rfl rfl rfl ?_
    refine zg_iload_n (x := p2) dX0_mark_12 rfl ?_
    refine zg_bipush (v := 120) dX0_mark_13 rfl ?_
    refine zg_imul dX0_mark_15 ?_
    refine zg_iload_n (x := p1) dX0_mark_16 rfl ?_
    refine zg_iadd dX0_mark_17 ?_
    refine zg_iload_n (x := bI p3) dX0_mark_18 rfl ?_
    refine zg_zast (v := bI p3) dX0_mark_19 rfl (z_ix120 (by simp only [q_isFile, q_isBlock, q_isBlockOfFile, q_isMirror, q_isSideOfMirror, q_isCell, q_isPlaceNumber, q_isCellOnSide, q_isPointer, q_isBlockPointer, vp_in_iff, Int32.lt_iff_toInt_lt, Int32.le_iff_toInt_le, Int32.reduceToInt] at c5 ⊢; omega) (by simp only [q_isFile, q_isBlock, q_isBlockOfFile, q_isMirror, q_isSideOfMirror, q_isCell, q_isPlaceNumber, q_isCellOnSide, q_isPointer, q_isBlockPointer, vp_in_iff, Int32.lt_iff_toInt_lt, Int32.le_iff_toInt_le, Int32.reduceToInt] at c5 ⊢; omega)) (bI_vp _) ?_
    exact zg_vret dX0_mark_20 rfl ⟨by decide, by decide⟩ rfl
  · refine zg_st (pc' := 20) (L' := [some (.inr 1), some (.inl p1), some (.inl p2), some (.inl (bI p3))]) (S' := []) (M' := M) rfl rfl rfl rfl ?_
    exact zg_vret dX0_mark_20 rfl ⟨by decide, by decide⟩ rfl
theorem dX0_heal_0 : decode cX0_heal 0 = .ok (.aload_n 0, 1) := by decide +kernel
theorem dX0_heal_1 : decode cX0_heal 1 = .ok (.iload_n 1, 1) := by decide +kernel
theorem dX0_heal_2 : decode cX0_heal 2 = .ok (.iload_n 2, 1) := by decide +kernel
theorem dX0_heal_3 : decode cX0_heal 3 = .ok (.invokevirtual 47, 3) := by decide +kernel
theorem dX0_heal_6 : decode cX0_heal 6 = .ok (.ifCond .eq 15, 3) := by decide +kernel
theorem dX0_heal_9 : decode cX0_heal 9 = .ok (.aload_n 0, 1) := by decide +kernel
theorem dX0_heal_10 : decode cX0_heal 10 = .ok (.iload_n 1, 1) := by decide +kernel
theorem dX0_heal_11 : decode cX0_heal 11 = .ok (.invokestatic 43, 3) := by decide +kernel
theorem dX0_heal_14 : decode cX0_heal 14 = .ok (.iload_n 2, 1) := by decide +kernel
theorem dX0_heal_15 : decode cX0_heal 15 = .ok (.invokevirtual 50, 3) := by decide +kernel
theorem dX0_heal_18 : decode cX0_heal 18 = .ok (.ifCond .ne 5, 3) := by decide +kernel
theorem dX0_heal_21 : decode cX0_heal 21 = .ok (.iconst 0, 1) := by decide +kernel
theorem dX0_heal_22 : decode cX0_heal 22 = .ok (.ireturn, 1) := by decide +kernel
theorem dX0_heal_23 : decode cX0_heal 23 = .ok (.aload_n 0, 1) := by decide +kernel
theorem dX0_heal_24 : decode cX0_heal 24 = .ok (.iload_n 1, 1) := by decide +kernel
theorem dX0_heal_25 : decode cX0_heal 25 = .ok (.iload_n 2, 1) := by decide +kernel
theorem dX0_heal_26 : decode cX0_heal 26 = .ok (.iconst 0, 1) := by decide +kernel
theorem dX0_heal_27 : decode cX0_heal 27 = .ok (.invokevirtual 53, 3) := by decide +kernel
theorem dX0_heal_30 : decode cX0_heal 30 = .ok (.iconst 1, 1) := by decide +kernel
theorem dX0_heal_31 : decode cX0_heal 31 = .ok (.ireturn, 1) := by decide +kernel
def f_X0_heal (p1 : Int32) (p2 : Int32) (M : Mem) : (Int32 × Mem) :=
  if (f_X0_hasSpoilt p1 p2 M) then if (f_X0_hasOnline (f_X4_mirrorOf p1) p2 M) then zlet (f_X0_mark p1 p2 false M) (fun N1 =>
      (1, N1))
    else (0, M)
  else (0, M)
set_option maxRecDepth 100000 in
set_option maxHeartbeats 4000000 in
theorem k_X0_heal (q : ZQ) (p1 : Int32) (p2 : Int32) (M : Mem) : Zc (zgX q) mX0_heal 0 0 [.inr 1, .inl p1, .inl p2] M (wIM (f_X0_heal p1 p2 M)) := by
  refine Zc.of (by decide) zi_X0_heal.1 (Nat.le_of_ble_eq_true rfl) rfl ?_
  show Zg _ _ _ _ _ _ (zlet (f_X0_heal p1 p2 M) wIM) _ _ _ _
  unfold f_X0_heal
  refine zg_aload_n (x := 1) dX0_heal_0 rfl ?_
  refine zg_iload_n (x := p1) dX0_heal_1 rfl ?_
  refine zg_iload_n (x := p2) dX0_heal_2 rfl ?_
  refine zg_cV1 (As := [.inl p1, .inl p2]) (S := []) (v := bI ((f_X0_hasSpoilt p1 p2 M))) dX0_heal_3 zk_X0_47 (k_X0_hasSpoilt q p1 p2 M) rfl rfl ⟨by decide, by decide⟩ ⟨by decide, by decide⟩ rfl (Nat.le_of_ble_eq_true rfl) ?_
  refine zg_st (pc' := 6) (L' := [some (.inr 1), some (.inl p1), some (.inl p2)]) (S' := [.inl (bI ((f_X0_hasSpoilt p1 p2 M)))]) (M' := M) rfl rfl rfl rfl ?_
  refine zg_ifbe (tgt := 21) dX0_heal_6 rfl (fun c6 => ?_) (fun c6 => ?_)
  · refine zg_st (pc' := 9) (L' := [some (.inr 1), some (.inl p1), some (.inl p2)]) (S' := []) (M' := M) rfl rfl rfl rfl ?_
    refine zg_aload_n (x := 1) dX0_heal_9 rfl ?_
    refine zg_iload_n (x := p1) dX0_heal_10 rfl ?_
    refine zg_cN1 (As := [.inl p1]) (S := [.inr 1]) (v := (f_X4_mirrorOf p1)) dX0_heal_11 zk_X0_43 (k_X4_mirrorOf q p1 M) rfl ⟨by decide, by decide⟩ ⟨by decide, by decide⟩ rfl (Nat.le_of_ble_eq_true rfl) ?_
    refine zg_st (pc' := 14) (L' := [some (.inr 1), some (.inl p1), some (.inl p2)]) (S' := [.inl (f_X4_mirrorOf p1), .inr 1]) (M' := M) rfl rfl rfl rfl ?_
    refine zg_iload_n (x := p2) dX0_heal_14 rfl ?_
    refine zg_cV1 (As := [.inl (f_X4_mirrorOf p1), .inl p2]) (S := []) (v := bI ((f_X0_hasOnline (f_X4_mirrorOf p1) p2 M))) dX0_heal_15 zk_X0_50 (k_X0_hasOnline q (f_X4_mirrorOf p1) p2 M) rfl rfl ⟨by decide, by decide⟩ ⟨by decide, by decide⟩ rfl (Nat.le_of_ble_eq_true rfl) ?_
    refine zg_st (pc' := 18) (L' := [some (.inr 1), some (.inl p1), some (.inl p2)]) (S' := [.inl (bI ((f_X0_hasOnline (f_X4_mirrorOf p1) p2 M)))]) (M' := M) rfl rfl rfl rfl ?_
    refine zg_ifbn (tgt := 23) dX0_heal_18 rfl (fun c18 => ?_) (fun c18 => ?_)
    · refine zg_st (pc' := 23) (L' := [some (.inr 1), some (.inl p1), some (.inl p2)]) (S' := []) (M' := M) rfl rfl rfl rfl ?_
      refine zg_aload_n (x := 1) dX0_heal_23 rfl ?_
      refine zg_iload_n (x := p1) dX0_heal_24 rfl ?_
      refine zg_iload_n (x := p2) dX0_heal_25 rfl ?_
      refine zg_iconst (v := 0) dX0_heal_26 rfl ?_
      refine zg_cVV (As := [.inl p1, .inl p2, .inl 0]) (S := []) dX0_heal_27 zk_X0_53 (k_X0_mark q p1 p2 false M) rfl rfl ⟨by decide, by decide⟩ ⟨by decide, by decide⟩ rfl (Nat.le_of_ble_eq_true rfl) (fun N1 e_N1 => ?_)
      try dsimp only
      refine zg_st (pc' := 30) (L' := [some (.inr 1), some (.inl p1), some (.inl p2)]) (S' := []) (M' := N1) rfl rfl rfl rfl ?_
      refine zg_iconst (v := 1) dX0_heal_30 rfl ?_
      exact zg_iret dX0_heal_31 rfl rfl ⟨by decide, by decide⟩ rfl
    · refine zg_st (pc' := 21) (L' := [some (.inr 1), some (.inl p1), some (.inl p2)]) (S' := []) (M' := M) rfl rfl rfl rfl ?_
      refine zg_iconst (v := 0) dX0_heal_21 rfl ?_
      exact zg_iret dX0_heal_22 rfl rfl ⟨by decide, by decide⟩ rfl
  · refine zg_st (pc' := 21) (L' := [some (.inr 1), some (.inl p1), some (.inl p2)]) (S' := []) (M' := M) rfl rfl rfl rfl ?_
    refine zg_iconst (v := 0) dX0_heal_21 rfl ?_
    exact zg_iret dX0_heal_22 rfl rfl ⟨by decide, by decide⟩ rfl
theorem dX2_count_0 : decode cX2_count 0 = .ok (.iconst 0, 1) := by decide +kernel
theorem dX2_count_1 : decode cX2_count 1 = .ok (.istore_n 1, 1) := by decide +kernel
theorem dX2_count_2 : decode cX2_count 2 = .ok (.iconst 0, 1) := by decide +kernel
theorem dX2_count_3 : decode cX2_count 3 = .ok (.istore_n 2, 1) := by decide +kernel
theorem dX2_count_4 : decode cX2_count 4 = .ok (.iload_n 2, 1) := by decide +kernel
theorem dX2_count_5 : decode cX2_count 5 = .ok (.bipush 48, 2) := by decide +kernel
theorem dX2_count_7 : decode cX2_count 7 = .ok (.if_icmp .ge 20, 3) := by decide +kernel
theorem dX2_count_10 : decode cX2_count 10 = .ok (.aload_n 0, 1) := by decide +kernel
theorem dX2_count_11 : decode cX2_count 11 = .ok (.iload_n 2, 1) := by decide +kernel
theorem dX2_count_12 : decode cX2_count 12 = .ok (.invokevirtual 33, 3) := by decide +kernel
theorem dX2_count_15 : decode cX2_count 15 = .ok (.ifCond .eq 6, 3) := by decide +kernel
theorem dX2_count_18 : decode cX2_count 18 = .ok (.iinc 1 1, 3) := by decide +kernel
theorem dX2_count_21 : decode cX2_count 21 = .ok (.iinc 2 1, 3) := by decide +kernel
theorem dX2_count_24 : decode cX2_count 24 = .ok (.goto (-20), 3) := by decide +kernel
theorem dX2_count_27 : decode cX2_count 27 = .ok (.iload_n 1, 1) := by decide +kernel
theorem dX2_count_28 : decode cX2_count 28 = .ok (.ireturn, 1) := by decide +kernel
def b_X2_count_4 (M : Mem) (rec : Int32 → Int32 → Int32 × Int32) (v1 : Int32) (v2 : Int32) : Int32 × Int32 :=
  if 48 ≤ v2 then (v1, v2)
  else if (f_X2_holds v2 M) then rec (v1 + 1) (v2 + 1)
  else rec v1 (v2 + 1)
def l_X2_count_4 (M : Mem) : Nat → Int32 → Int32 → Int32 × Int32
  | 0, v1, v2 => (v1, v2)
  | n + 1, v1, v2 => b_X2_count_4 M (l_X2_count_4 M n) v1 v2
set_option maxRecDepth 100000 in
set_option maxHeartbeats 4000000 in
theorem kl_X2_count_4 (q : ZQ) (M : Mem) {K : Int32 × Int32 → ZR} (hx : ∀ e : Int32 × Int32, Zg (zgX q) mX2_count 0 0 0 0 (K e) 27 [some (.inr 3), some (.inl e.1), some (.inl e.2)] [] M) :
    ∀ (n : Nat) (v1 : Int32) (v2 : Int32), ((48 : Int32).toInt - (v2 : Int32).toInt).toNat < n → Zg (zgX q) mX2_count 0 0 0 0 (zlet (l_X2_count_4 M n v1 v2) K) 4 [some (.inr 3), some (.inl v1), some (.inl v2)] [] M := by
  intro n
  induction n with
  | zero => intro v1 v2 hm; exact absurd hm (Nat.not_lt_zero _)
  | succ n ih =>
    intro v1 v2 hm
    show Zg _ _ _ _ _ _ (zlet (b_X2_count_4 M (l_X2_count_4 M n) v1 v2) K) _ _ _ _
    unfold b_X2_count_4
    refine zg_iload_n (x := v2) dX2_count_4 rfl ?_
    refine zg_bipush (v := 48) dX2_count_5 rfl ?_
    refine zg_icmpz (tgt := 27) dX2_count_7 rfl rfl (fun c7 => ?_) (fun c7 => ?_)
    · refine zg_st (pc' := 27) (L' := [some (.inr 3), some (.inl v1), some (.inl v2)]) (S' := []) (M' := M) rfl rfl rfl rfl ?_
      refine zg_drop (L' := [some (.inr 3), some (.inl v1), some (.inl v2)]) ⟨rfl, rfl, rfl, trivial⟩ ?_
      exact hx (v1, v2)
    · refine zg_st (pc' := 10) (L' := [some (.inr 3), some (.inl v1), some (.inl v2)]) (S' := []) (M' := M) rfl rfl rfl rfl ?_
      refine zg_aload_n (x := 3) dX2_count_10 rfl ?_
      refine zg_iload_n (x := v2) dX2_count_11 rfl ?_
      refine zg_cV1 (As := [.inl v2]) (S := []) (v := bI ((f_X2_holds v2 M))) dX2_count_12 zk_X2_33 (k_X2_holds q v2 M) rfl rfl ⟨by decide, by decide⟩ ⟨by decide, by decide⟩ rfl (Nat.le_of_ble_eq_true rfl) ?_
      refine zg_st (pc' := 15) (L' := [some (.inr 3), some (.inl v1), some (.inl v2)]) (S' := [.inl (bI ((f_X2_holds v2 M)))]) (M' := M) rfl rfl rfl rfl ?_
      refine zg_ifbe (tgt := 21) dX2_count_15 rfl (fun c15 => ?_) (fun c15 => ?_)
      · refine zg_st (pc' := 18) (L' := [some (.inr 3), some (.inl v1), some (.inl v2)]) (S' := []) (M' := M) rfl rfl rfl rfl ?_
        refine zg_iinc (v := (v1 + 1)) dX2_count_18 rfl (by decide) rfl ?_
        refine zg_st (pc' := 21) (L' := [some (.inr 3), some (.inl (v1 + 1)), some (.inl v2)]) (S' := []) (M' := M) rfl rfl rfl rfl ?_
        refine zg_iinc (v := (v2 + 1)) dX2_count_21 rfl (by decide) rfl ?_
        refine zg_st (pc' := 24) (L' := [some (.inr 3), some (.inl (v1 + 1)), some (.inl (v2 + 1))]) (S' := []) (M' := M) rfl rfl rfl rfl ?_
        refine zg_goto (tgt := 4) dX2_count_24 rfl ?_
        refine zg_st (pc' := 4) (L' := [some (.inr 3), some (.inl (v1 + 1)), some (.inl (v2 + 1))]) (S' := []) (M' := M) rfl rfl rfl rfl ?_
        refine zg_drop (L' := [some (.inr 3), some (.inl (v1 + 1)), some (.inl (v2 + 1))]) ⟨rfl, rfl, rfl, trivial⟩ ?_
        exact ih (v1 + 1) (v2 + 1) (z_up c7 hm)
      · refine zg_st (pc' := 21) (L' := [some (.inr 3), some (.inl v1), some (.inl v2)]) (S' := []) (M' := M) rfl rfl rfl rfl ?_
        refine zg_iinc (v := (v2 + 1)) dX2_count_21 rfl (by decide) rfl ?_
        refine zg_st (pc' := 24) (L' := [some (.inr 3), some (.inl v1), some (.inl (v2 + 1))]) (S' := []) (M' := M) rfl rfl rfl rfl ?_
        refine zg_goto (tgt := 4) dX2_count_24 rfl ?_
        refine zg_st (pc' := 4) (L' := [some (.inr 3), some (.inl v1), some (.inl (v2 + 1))]) (S' := []) (M' := M) rfl rfl rfl rfl ?_
        refine zg_drop (L' := [some (.inr 3), some (.inl v1), some (.inl (v2 + 1))]) ⟨rfl, rfl, rfl, trivial⟩ ?_
        exact ih v1 (v2 + 1) (z_up c7 hm)
def f_X2_count (M : Mem) : Int32 :=
  zlet (l_X2_count_4 M 49 0 0) (fun s1 =>
  s1.1)
set_option maxRecDepth 100000 in
set_option maxHeartbeats 4000000 in
theorem k_X2_count (q : ZQ) (M : Mem) : Zc (zgX q) mX2_count 0 0 [.inr 3] M (wI M (f_X2_count M)) := by
  refine Zc.of (by decide) zi_X2_count.1 (Nat.le_of_ble_eq_true rfl) rfl ?_
  show Zg _ _ _ _ _ _ (zlet (f_X2_count M) (wI M)) _ _ _ _
  unfold f_X2_count
  refine zg_iconst (v := 0) dX2_count_0 rfl ?_
  refine zg_istore_n dX2_count_1 (by decide) ?_
  refine zg_st (pc' := 2) (L' := [some (.inr 3), some (.inl 0), none]) (S' := []) (M' := M) rfl rfl rfl rfl ?_
  refine zg_iconst (v := 0) dX2_count_2 rfl ?_
  refine zg_istore_n dX2_count_3 (by decide) ?_
  refine zg_st (pc' := 4) (L' := [some (.inr 3), some (.inl 0), some (.inl 0)]) (S' := []) (M' := M) rfl rfl rfl rfl ?_
  refine zg_asc ?_
  refine zg_drop (L' := [some (.inr 3), some (.inl 0), some (.inl 0)]) ⟨rfl, rfl, rfl, trivial⟩ ?_
  refine kl_X2_count_4 q M (fun s1 => ?_) 49 0 0 (by decide)
  try dsimp only [Sum.elim_inr]
  refine zg_st (pc' := 27) (L' := [some (.inr 3), some (.inl s1.1), some (.inl s1.2)]) (S' := []) (M' := M) rfl rfl rfl rfl ?_
  refine zg_iload_n (x := s1.1) dX2_count_27 rfl ?_
  exact zg_iret dX2_count_28 rfl rfl ⟨by decide, by decide⟩ rfl
def b_J7_fill_53178_15_5 (x1 : Int32) (x3 : Int32) (rec : Int32 → Mem → Int32 × Mem) (v2 : Int32) (N : Mem) : Int32 × Mem :=
  if x3 ≤ v2 then (v2, N)
  else rec (v2 + 1) (mup N 15 v2.toNatClampNeg x1)
def l_J7_fill_53178_15_5 (x1 : Int32) (x3 : Int32) : Nat → Int32 → Mem → Int32 × Mem
  | 0, v2, N => (v2, N)
  | n + 1, v2, N => b_J7_fill_53178_15_5 x1 x3 (l_J7_fill_53178_15_5 x1 x3 n) v2 N
set_option maxRecDepth 100000 in
set_option maxHeartbeats 4000000 in
theorem kl_J7_fill_53178_15_5 (q : ZQ) (x1 : Int32) (x3 : Int32) (hx3 : x3.toInt = 48) {K : Int32 × Mem → ZR} (hx : ∀ e : Int32 × Mem, (0 : Int) ≤ e.1.toInt → Zg (zgX q) mJ7_fill_53178 0 0 0 0 (K e) 20 [some (.inr 15), some (.inl x1), some (.inl e.1), some (.inl x3)] [] e.2) :
    ∀ (n : Nat) (v2 : Int32) (N : Mem), (0 : Int) ≤ v2.toInt → ((x3 : Int32).toInt - (v2 : Int32).toInt).toNat < n → Zg (zgX q) mJ7_fill_53178 0 0 0 0 (zlet (l_J7_fill_53178_15_5 x1 x3 n v2 N) K) 5 [some (.inr 15), some (.inl x1), some (.inl v2), some (.inl x3)] [] N := by
  intro n
  induction n with
  | zero => intro v2 N hI hm; exact absurd hm (Nat.not_lt_zero _)
  | succ n ih =>
    intro v2 N hI hm
    show Zg _ _ _ _ _ _ (zlet (b_J7_fill_53178_15_5 x1 x3 (l_J7_fill_53178_15_5 x1 x3 n) v2 N) K) _ _ _ _
    unfold b_J7_fill_53178_15_5
    refine zg_iload_n (x := v2) dJ7_fill_53178_5 rfl ?_
    refine zg_iload_n (x := x3) dJ7_fill_53178_6 rfl ?_
    refine zg_icmpz (tgt := 20) dJ7_fill_53178_7 rfl rfl (fun c7 => ?_) (fun c7 => ?_)
    · refine zg_st (pc' := 20) (L' := [some (.inr 15), some (.inl x1), some (.inl v2), some (.inl x3)]) (S' := []) (M' := N) rfl rfl rfl rfl ?_
      refine zg_drop (L' := [some (.inr 15), some (.inl x1), some (.inl v2), some (.inl x3)]) ⟨rfl, rfl, rfl, rfl, trivial⟩ ?_
      exact hx (v2, N) hI
    · refine zg_st (pc' := 10) (L' := [some (.inr 15), some (.inl x1), some (.inl v2), some (.inl x3)]) (S' := []) (M' := N) rfl rfl rfl rfl ?_
      refine zg_aload_n (x := 15) dJ7_fill_53178_10 rfl ?_
      refine zg_iload_n (x := v2) dJ7_fill_53178_11 rfl ?_
      refine zg_iload_n (x := x1) dJ7_fill_53178_12 rfl ?_
      refine zg_iast dJ7_fill_53178_13 rfl (by simp only [q_isFile, q_isBlock, q_isBlockOfFile, q_isMirror, q_isSideOfMirror, q_isCell, q_isPlaceNumber, q_isCellOnSide, q_isPointer, q_isBlockPointer, vp_in_iff, Int32.lt_iff_toInt_lt, Int32.le_iff_toInt_le, Int32.reduceToInt] at c7 hI hx3 ⊢; omega) ?_
      refine zg_iinc (v := (v2 + 1)) dJ7_fill_53178_14 rfl (by decide) rfl ?_
      refine zg_st (pc' := 17) (L' := [some (.inr 15), some (.inl x1), some (.inl (v2 + 1)), some (.inl x3)]) (S' := []) (M' := (mup N 15 v2.toNatClampNeg x1)) rfl rfl rfl rfl ?_
      refine zg_goto (tgt := 5) dJ7_fill_53178_17 rfl ?_
      refine zg_st (pc' := 5) (L' := [some (.inr 15), some (.inl x1), some (.inl (v2 + 1)), some (.inl x3)]) (S' := []) (M' := (mup N 15 v2.toNatClampNeg x1)) rfl rfl rfl rfl ?_
      refine zg_drop (L' := [some (.inr 15), some (.inl x1), some (.inl (v2 + 1)), some (.inl x3)]) ⟨rfl, rfl, rfl, rfl, trivial⟩ ?_
      exact ih (v2 + 1) (mup N 15 v2.toNatClampNeg x1) (z_ge0 c7 hI) (z_up c7 hm)
def f_J7_fill_53178_15 (p1 : Int32) (M : Mem) : Mem :=
  zlet (l_J7_fill_53178_15_5 p1 48 49 0 M) (fun s1 =>
  s1.2)
set_option maxRecDepth 100000 in
set_option maxHeartbeats 4000000 in
theorem k_J7_fill_53178_15 (q : ZQ) (p1 : Int32) (M : Mem) : Zc (zgX q) mJ7_fill_53178 0 0 [.inr 15, .inl p1] M (wV (f_J7_fill_53178_15 p1 M)) := by
  refine Zc.of (by decide) zi_J7_fill_53178.1 (Nat.le_of_ble_eq_true rfl) rfl ?_
  show Zg _ _ _ _ _ _ (zlet (f_J7_fill_53178_15 p1 M) wV) _ _ _ _
  unfold f_J7_fill_53178_15
  refine zg_iconst (v := 0) dJ7_fill_53178_0 rfl ?_
  refine zg_istore_n dJ7_fill_53178_1 (by decide) ?_
  refine zg_st (pc' := 2) (L' := [some (.inr 15), some (.inl p1), some (.inl 0), none]) (S' := []) (M' := M) rfl rfl rfl rfl ?_
  refine zg_aload_n (x := 15) dJ7_fill_53178_2 rfl ?_
  refine zg_alen (v := 48) dJ7_fill_53178_3 rfl rfl ?_
  refine zg_istore_n dJ7_fill_53178_4 (by decide) ?_
  refine zg_st (pc' := 5) (L' := [some (.inr 15), some (.inl p1), some (.inl 0), some (.inl 48)]) (S' := []) (M' := M) rfl rfl rfl rfl ?_
  refine zg_asc ?_
  refine zg_drop (L' := [some (.inr 15), some (.inl p1), some (.inl 0), some (.inl 48)]) ⟨rfl, rfl, rfl, rfl, trivial⟩ ?_
  refine kl_J7_fill_53178_15_5 q p1 48  (by decide) (fun s1 hI_s1 => ?_) 49 0 M (by decide) (by decide)
  try dsimp only [Sum.elim_inr]
  refine zg_st (pc' := 20) (L' := [some (.inr 15), some (.inl p1), some (.inl s1.1), some (.inl 48)]) (S' := []) (M' := s1.2) rfl rfl rfl rfl ?_
  exact zg_vret dJ7_fill_53178_20 rfl ⟨by decide, by decide⟩ rfl
theorem dX2_dropChanges_0 : decode cX2_dropChanges 0 = .ok (.aload_n 0, 1) := by decide +kernel
theorem dX2_dropChanges_1 : decode cX2_dropChanges 1 = .ok (.getfield 9, 3) := by decide +kernel
theorem dX2_dropChanges_4 : decode cX2_dropChanges 4 = .ok (.iconst (-1), 1) := by decide +kernel
theorem dX2_dropChanges_5 : decode cX2_dropChanges 5 = .ok (.invokestatic 15, 3) := by decide +kernel
theorem dX2_dropChanges_8 : decode cX2_dropChanges 8 = .ok (.return_, 1) := by decide +kernel
def f_X2_dropChanges (M : Mem) : Mem :=
  zlet (f_J7_fill_53178_15 (-1) M) (fun N1 =>
  N1)
set_option maxRecDepth 100000 in
set_option maxHeartbeats 4000000 in
theorem k_X2_dropChanges (q : ZQ) (M : Mem) : Zc (zgX q) mX2_dropChanges 0 0 [.inr 3] M (wV (f_X2_dropChanges M)) := by
  refine Zc.of (by decide) zi_X2_dropChanges.1 (Nat.le_of_ble_eq_true rfl) rfl ?_
  show Zg _ _ _ _ _ _ (zlet (f_X2_dropChanges M) wV) _ _ _ _
  unfold f_X2_dropChanges
  refine zg_aload_n (x := 3) dX2_dropChanges_0 rfl ?_
  refine zg_getf (v := .inr 15) dX2_dropChanges_1 zf_X2_9 rfl rfl rfl ?_
  refine zg_iconst (v := (-1)) dX2_dropChanges_4 rfl ?_
  refine zg_cSV (As := [.inr 15, .inl (-1)]) (S := []) dX2_dropChanges_5 zk_X2_15 (k_J7_fill_53178_15 q (-1) M) rfl ⟨by decide, by decide⟩ ⟨by decide, by decide⟩ rfl (Nat.le_of_ble_eq_true rfl) (fun N1 e_N1 => ?_)
  try dsimp only
  refine zg_st (pc' := 8) (L' := [some (.inr 3)]) (S' := []) (M' := N1) rfl rfl rfl rfl ?_
  exact zg_vret dX2_dropChanges_8 rfl ⟨by decide, by decide⟩ rfl
theorem dX2_close_0 : decode cX2_close 0 = .ok (.aload_n 0, 1) := by decide +kernel
theorem dX2_close_1 : decode cX2_close 1 = .ok (.invokevirtual 36, 3) := by decide +kernel
theorem dX2_close_4 : decode cX2_close 4 = .ok (.aload_n 0, 1) := by decide +kernel
theorem dX2_close_5 : decode cX2_close 5 = .ok (.dup, 1) := by decide +kernel
theorem dX2_close_6 : decode cX2_close 6 = .ok (.getfield 21, 3) := by decide +kernel
theorem dX2_close_9 : decode cX2_close 9 = .ok (.iconst 1, 1) := by decide +kernel
theorem dX2_close_10 : decode cX2_close 10 = .ok (.iadd, 1) := by decide +kernel
theorem dX2_close_11 : decode cX2_close 11 = .ok (.putfield 21, 3) := by decide +kernel
theorem dX2_close_14 : decode cX2_close 14 = .ok (.return_, 1) := by decide +kernel
def f_X2_close (M : Mem) : Mem :=
  zlet (f_X2_dropChanges M) (fun N1 =>
  (mup N1 3 1 ((N1 3 1) + 1)))
set_option maxRecDepth 100000 in
set_option maxHeartbeats 4000000 in
theorem k_X2_close (q : ZQ) (M : Mem) : Zc (zgX q) mX2_close 0 0 [.inr 3] M (wV (f_X2_close M)) := by
  refine Zc.of (by decide) zi_X2_close.1 (Nat.le_of_ble_eq_true rfl) rfl ?_
  show Zg _ _ _ _ _ _ (zlet (f_X2_close M) wV) _ _ _ _
  unfold f_X2_close
  refine zg_aload_n (x := 3) dX2_close_0 rfl ?_
  refine zg_cVV (As := []) (S := []) dX2_close_1 zk_X2_36 (k_X2_dropChanges q M) rfl rfl ⟨by decide, by decide⟩ ⟨by decide, by decide⟩ rfl (Nat.le_of_ble_eq_true rfl) (fun N1 e_N1 => ?_)
  try dsimp only
  refine zg_st (pc' := 4) (L' := [some (.inr 3)]) (S' := []) (M' := N1) rfl rfl rfl rfl ?_
  refine zg_aload_n (x := 3) dX2_close_4 rfl ?_
  refine zg_dup dX2_close_5 ?_
  refine zg_getf (v := .inl (N1 3 1)) dX2_close_6 zf_X2_21 rfl rfl rfl ?_
  refine zg_iconst (v := 1) dX2_close_9 rfl ?_
  refine zg_iadd dX2_close_10 ?_
  refine zg_putf dX2_close_11 zp_X2_21 rfl rfl ?_
  exact zg_vret dX2_close_14 rfl ⟨by decide, by decide⟩ rfl
def b_J7_fill_53178_18_5 (x1 : Int32) (x3 : Int32) (rec : Int32 → Mem → Int32 × Mem) (v2 : Int32) (N : Mem) : Int32 × Mem :=
  if x3 ≤ v2 then (v2, N)
  else rec (v2 + 1) (mup N 18 v2.toNatClampNeg x1)
def l_J7_fill_53178_18_5 (x1 : Int32) (x3 : Int32) : Nat → Int32 → Mem → Int32 × Mem
  | 0, v2, N => (v2, N)
  | n + 1, v2, N => b_J7_fill_53178_18_5 x1 x3 (l_J7_fill_53178_18_5 x1 x3 n) v2 N
set_option maxRecDepth 100000 in
set_option maxHeartbeats 4000000 in
theorem kl_J7_fill_53178_18_5 (q : ZQ) (x1 : Int32) (x3 : Int32) (hx3 : x3.toInt = 53) {K : Int32 × Mem → ZR} (hx : ∀ e : Int32 × Mem, (0 : Int) ≤ e.1.toInt → Zg (zgX q) mJ7_fill_53178 0 0 0 0 (K e) 20 [some (.inr 18), some (.inl x1), some (.inl e.1), some (.inl x3)] [] e.2) :
    ∀ (n : Nat) (v2 : Int32) (N : Mem), (0 : Int) ≤ v2.toInt → ((x3 : Int32).toInt - (v2 : Int32).toInt).toNat < n → Zg (zgX q) mJ7_fill_53178 0 0 0 0 (zlet (l_J7_fill_53178_18_5 x1 x3 n v2 N) K) 5 [some (.inr 18), some (.inl x1), some (.inl v2), some (.inl x3)] [] N := by
  intro n
  induction n with
  | zero => intro v2 N hI hm; exact absurd hm (Nat.not_lt_zero _)
  | succ n ih =>
    intro v2 N hI hm
    show Zg _ _ _ _ _ _ (zlet (b_J7_fill_53178_18_5 x1 x3 (l_J7_fill_53178_18_5 x1 x3 n) v2 N) K) _ _ _ _
    unfold b_J7_fill_53178_18_5
    refine zg_iload_n (x := v2) dJ7_fill_53178_5 rfl ?_
    refine zg_iload_n (x := x3) dJ7_fill_53178_6 rfl ?_
    refine zg_icmpz (tgt := 20) dJ7_fill_53178_7 rfl rfl (fun c7 => ?_) (fun c7 => ?_)
    · refine zg_st (pc' := 20) (L' := [some (.inr 18), some (.inl x1), some (.inl v2), some (.inl x3)]) (S' := []) (M' := N) rfl rfl rfl rfl ?_
      refine zg_drop (L' := [some (.inr 18), some (.inl x1), some (.inl v2), some (.inl x3)]) ⟨rfl, rfl, rfl, rfl, trivial⟩ ?_
      exact hx (v2, N) hI
    · refine zg_st (pc' := 10) (L' := [some (.inr 18), some (.inl x1), some (.inl v2), some (.inl x3)]) (S' := []) (M' := N) rfl rfl rfl rfl ?_
      refine zg_aload_n (x := 18) dJ7_fill_53178_10 rfl ?_
      refine zg_iload_n (x := v2) dJ7_fill_53178_11 rfl ?_
      refine zg_iload_n (x := x1) dJ7_fill_53178_12 rfl ?_
      refine zg_iast dJ7_fill_53178_13 rfl (by simp only [q_isFile, q_isBlock, q_isBlockOfFile, q_isMirror, q_isSideOfMirror, q_isCell, q_isPlaceNumber, q_isCellOnSide, q_isPointer, q_isBlockPointer, vp_in_iff, Int32.lt_iff_toInt_lt, Int32.le_iff_toInt_le, Int32.reduceToInt] at c7 hI hx3 ⊢; omega) ?_
      refine zg_iinc (v := (v2 + 1)) dJ7_fill_53178_14 rfl (by decide) rfl ?_
      refine zg_st (pc' := 17) (L' := [some (.inr 18), some (.inl x1), some (.inl (v2 + 1)), some (.inl x3)]) (S' := []) (M' := (mup N 18 v2.toNatClampNeg x1)) rfl rfl rfl rfl ?_
      refine zg_goto (tgt := 5) dJ7_fill_53178_17 rfl ?_
      refine zg_st (pc' := 5) (L' := [some (.inr 18), some (.inl x1), some (.inl (v2 + 1)), some (.inl x3)]) (S' := []) (M' := (mup N 18 v2.toNatClampNeg x1)) rfl rfl rfl rfl ?_
      refine zg_drop (L' := [some (.inr 18), some (.inl x1), some (.inl (v2 + 1)), some (.inl x3)]) ⟨rfl, rfl, rfl, rfl, trivial⟩ ?_
      exact ih (v2 + 1) (mup N 18 v2.toNatClampNeg x1) (z_ge0 c7 hI) (z_up c7 hm)
def f_J7_fill_53178_18 (p1 : Int32) (M : Mem) : Mem :=
  zlet (l_J7_fill_53178_18_5 p1 53 54 0 M) (fun s1 =>
  s1.2)
set_option maxRecDepth 100000 in
set_option maxHeartbeats 4000000 in
theorem k_J7_fill_53178_18 (q : ZQ) (p1 : Int32) (M : Mem) : Zc (zgX q) mJ7_fill_53178 0 0 [.inr 18, .inl p1] M (wV (f_J7_fill_53178_18 p1 M)) := by
  refine Zc.of (by decide) zi_J7_fill_53178.1 (Nat.le_of_ble_eq_true rfl) rfl ?_
  show Zg _ _ _ _ _ _ (zlet (f_J7_fill_53178_18 p1 M) wV) _ _ _ _
  unfold f_J7_fill_53178_18
  refine zg_iconst (v := 0) dJ7_fill_53178_0 rfl ?_
  refine zg_istore_n dJ7_fill_53178_1 (by decide) ?_
  refine zg_st (pc' := 2) (L' := [some (.inr 18), some (.inl p1), some (.inl 0), none]) (S' := []) (M' := M) rfl rfl rfl rfl ?_
  refine zg_aload_n (x := 18) dJ7_fill_53178_2 rfl ?_
  refine zg_alen (v := 53) dJ7_fill_53178_3 rfl rfl ?_
  refine zg_istore_n dJ7_fill_53178_4 (by decide) ?_
  refine zg_st (pc' := 5) (L' := [some (.inr 18), some (.inl p1), some (.inl 0), some (.inl 53)]) (S' := []) (M' := M) rfl rfl rfl rfl ?_
  refine zg_asc ?_
  refine zg_drop (L' := [some (.inr 18), some (.inl p1), some (.inl 0), some (.inl 53)]) ⟨rfl, rfl, rfl, rfl, trivial⟩ ?_
  refine kl_J7_fill_53178_18_5 q p1 53  (by decide) (fun s1 hI_s1 => ?_) 54 0 M (by decide) (by decide)
  try dsimp only [Sum.elim_inr]
  refine zg_st (pc' := 20) (L' := [some (.inr 18), some (.inl p1), some (.inl s1.1), some (.inl 53)]) (S' := []) (M' := s1.2) rfl rfl rfl rfl ?_
  exact zg_vret dJ7_fill_53178_20 rfl ⟨by decide, by decide⟩ rfl
def b_J7_fill_53178_19_5 (x1 : Int32) (x3 : Int32) (rec : Int32 → Mem → Int32 × Mem) (v2 : Int32) (N : Mem) : Int32 × Mem :=
  if x3 ≤ v2 then (v2, N)
  else rec (v2 + 1) (mup N 19 v2.toNatClampNeg x1)
def l_J7_fill_53178_19_5 (x1 : Int32) (x3 : Int32) : Nat → Int32 → Mem → Int32 × Mem
  | 0, v2, N => (v2, N)
  | n + 1, v2, N => b_J7_fill_53178_19_5 x1 x3 (l_J7_fill_53178_19_5 x1 x3 n) v2 N
set_option maxRecDepth 100000 in
set_option maxHeartbeats 4000000 in
theorem kl_J7_fill_53178_19_5 (q : ZQ) (x1 : Int32) (x3 : Int32) (hx3 : x3.toInt = 53) {K : Int32 × Mem → ZR} (hx : ∀ e : Int32 × Mem, (0 : Int) ≤ e.1.toInt → Zg (zgX q) mJ7_fill_53178 0 0 0 0 (K e) 20 [some (.inr 19), some (.inl x1), some (.inl e.1), some (.inl x3)] [] e.2) :
    ∀ (n : Nat) (v2 : Int32) (N : Mem), (0 : Int) ≤ v2.toInt → ((x3 : Int32).toInt - (v2 : Int32).toInt).toNat < n → Zg (zgX q) mJ7_fill_53178 0 0 0 0 (zlet (l_J7_fill_53178_19_5 x1 x3 n v2 N) K) 5 [some (.inr 19), some (.inl x1), some (.inl v2), some (.inl x3)] [] N := by
  intro n
  induction n with
  | zero => intro v2 N hI hm; exact absurd hm (Nat.not_lt_zero _)
  | succ n ih =>
    intro v2 N hI hm
    show Zg _ _ _ _ _ _ (zlet (b_J7_fill_53178_19_5 x1 x3 (l_J7_fill_53178_19_5 x1 x3 n) v2 N) K) _ _ _ _
    unfold b_J7_fill_53178_19_5
    refine zg_iload_n (x := v2) dJ7_fill_53178_5 rfl ?_
    refine zg_iload_n (x := x3) dJ7_fill_53178_6 rfl ?_
    refine zg_icmpz (tgt := 20) dJ7_fill_53178_7 rfl rfl (fun c7 => ?_) (fun c7 => ?_)
    · refine zg_st (pc' := 20) (L' := [some (.inr 19), some (.inl x1), some (.inl v2), some (.inl x3)]) (S' := []) (M' := N) rfl rfl rfl rfl ?_
      refine zg_drop (L' := [some (.inr 19), some (.inl x1), some (.inl v2), some (.inl x3)]) ⟨rfl, rfl, rfl, rfl, trivial⟩ ?_
      exact hx (v2, N) hI
    · refine zg_st (pc' := 10) (L' := [some (.inr 19), some (.inl x1), some (.inl v2), some (.inl x3)]) (S' := []) (M' := N) rfl rfl rfl rfl ?_
      refine zg_aload_n (x := 19) dJ7_fill_53178_10 rfl ?_
      refine zg_iload_n (x := v2) dJ7_fill_53178_11 rfl ?_
      refine zg_iload_n (x := x1) dJ7_fill_53178_12 rfl ?_
      refine zg_iast dJ7_fill_53178_13 rfl (by simp only [q_isFile, q_isBlock, q_isBlockOfFile, q_isMirror, q_isSideOfMirror, q_isCell, q_isPlaceNumber, q_isCellOnSide, q_isPointer, q_isBlockPointer, vp_in_iff, Int32.lt_iff_toInt_lt, Int32.le_iff_toInt_le, Int32.reduceToInt] at c7 hI hx3 ⊢; omega) ?_
      refine zg_iinc (v := (v2 + 1)) dJ7_fill_53178_14 rfl (by decide) rfl ?_
      refine zg_st (pc' := 17) (L' := [some (.inr 19), some (.inl x1), some (.inl (v2 + 1)), some (.inl x3)]) (S' := []) (M' := (mup N 19 v2.toNatClampNeg x1)) rfl rfl rfl rfl ?_
      refine zg_goto (tgt := 5) dJ7_fill_53178_17 rfl ?_
      refine zg_st (pc' := 5) (L' := [some (.inr 19), some (.inl x1), some (.inl (v2 + 1)), some (.inl x3)]) (S' := []) (M' := (mup N 19 v2.toNatClampNeg x1)) rfl rfl rfl rfl ?_
      refine zg_drop (L' := [some (.inr 19), some (.inl x1), some (.inl (v2 + 1)), some (.inl x3)]) ⟨rfl, rfl, rfl, rfl, trivial⟩ ?_
      exact ih (v2 + 1) (mup N 19 v2.toNatClampNeg x1) (z_ge0 c7 hI) (z_up c7 hm)
def f_J7_fill_53178_19 (p1 : Int32) (M : Mem) : Mem :=
  zlet (l_J7_fill_53178_19_5 p1 53 54 0 M) (fun s1 =>
  s1.2)
set_option maxRecDepth 100000 in
set_option maxHeartbeats 4000000 in
theorem k_J7_fill_53178_19 (q : ZQ) (p1 : Int32) (M : Mem) : Zc (zgX q) mJ7_fill_53178 0 0 [.inr 19, .inl p1] M (wV (f_J7_fill_53178_19 p1 M)) := by
  refine Zc.of (by decide) zi_J7_fill_53178.1 (Nat.le_of_ble_eq_true rfl) rfl ?_
  show Zg _ _ _ _ _ _ (zlet (f_J7_fill_53178_19 p1 M) wV) _ _ _ _
  unfold f_J7_fill_53178_19
  refine zg_iconst (v := 0) dJ7_fill_53178_0 rfl ?_
  refine zg_istore_n dJ7_fill_53178_1 (by decide) ?_
  refine zg_st (pc' := 2) (L' := [some (.inr 19), some (.inl p1), some (.inl 0), none]) (S' := []) (M' := M) rfl rfl rfl rfl ?_
  refine zg_aload_n (x := 19) dJ7_fill_53178_2 rfl ?_
  refine zg_alen (v := 53) dJ7_fill_53178_3 rfl rfl ?_
  refine zg_istore_n dJ7_fill_53178_4 (by decide) ?_
  refine zg_st (pc' := 5) (L' := [some (.inr 19), some (.inl p1), some (.inl 0), some (.inl 53)]) (S' := []) (M' := M) rfl rfl rfl rfl ?_
  refine zg_asc ?_
  refine zg_drop (L' := [some (.inr 19), some (.inl p1), some (.inl 0), some (.inl 53)]) ⟨rfl, rfl, rfl, rfl, trivial⟩ ?_
  refine kl_J7_fill_53178_19_5 q p1 53  (by decide) (fun s1 hI_s1 => ?_) 54 0 M (by decide) (by decide)
  try dsimp only [Sum.elim_inr]
  refine zg_st (pc' := 20) (L' := [some (.inr 19), some (.inl p1), some (.inl s1.1), some (.inl 53)]) (S' := []) (M' := s1.2) rfl rfl rfl rfl ?_
  exact zg_vret dJ7_fill_53178_20 rfl ⟨by decide, by decide⟩ rfl
def b_J7_fill_53178_17_5 (x1 : Int32) (x3 : Int32) (rec : Int32 → Mem → Int32 × Mem) (v2 : Int32) (N : Mem) : Int32 × Mem :=
  if x3 ≤ v2 then (v2, N)
  else rec (v2 + 1) (mup N 17 v2.toNatClampNeg x1)
def l_J7_fill_53178_17_5 (x1 : Int32) (x3 : Int32) : Nat → Int32 → Mem → Int32 × Mem
  | 0, v2, N => (v2, N)
  | n + 1, v2, N => b_J7_fill_53178_17_5 x1 x3 (l_J7_fill_53178_17_5 x1 x3 n) v2 N
set_option maxRecDepth 100000 in
set_option maxHeartbeats 4000000 in
theorem kl_J7_fill_53178_17_5 (q : ZQ) (x1 : Int32) (x3 : Int32) (hx3 : x3.toInt = 3) {K : Int32 × Mem → ZR} (hx : ∀ e : Int32 × Mem, (0 : Int) ≤ e.1.toInt → Zg (zgX q) mJ7_fill_53178 0 0 0 0 (K e) 20 [some (.inr 17), some (.inl x1), some (.inl e.1), some (.inl x3)] [] e.2) :
    ∀ (n : Nat) (v2 : Int32) (N : Mem), (0 : Int) ≤ v2.toInt → ((x3 : Int32).toInt - (v2 : Int32).toInt).toNat < n → Zg (zgX q) mJ7_fill_53178 0 0 0 0 (zlet (l_J7_fill_53178_17_5 x1 x3 n v2 N) K) 5 [some (.inr 17), some (.inl x1), some (.inl v2), some (.inl x3)] [] N := by
  intro n
  induction n with
  | zero => intro v2 N hI hm; exact absurd hm (Nat.not_lt_zero _)
  | succ n ih =>
    intro v2 N hI hm
    show Zg _ _ _ _ _ _ (zlet (b_J7_fill_53178_17_5 x1 x3 (l_J7_fill_53178_17_5 x1 x3 n) v2 N) K) _ _ _ _
    unfold b_J7_fill_53178_17_5
    refine zg_iload_n (x := v2) dJ7_fill_53178_5 rfl ?_
    refine zg_iload_n (x := x3) dJ7_fill_53178_6 rfl ?_
    refine zg_icmpz (tgt := 20) dJ7_fill_53178_7 rfl rfl (fun c7 => ?_) (fun c7 => ?_)
    · refine zg_st (pc' := 20) (L' := [some (.inr 17), some (.inl x1), some (.inl v2), some (.inl x3)]) (S' := []) (M' := N) rfl rfl rfl rfl ?_
      refine zg_drop (L' := [some (.inr 17), some (.inl x1), some (.inl v2), some (.inl x3)]) ⟨rfl, rfl, rfl, rfl, trivial⟩ ?_
      exact hx (v2, N) hI
    · refine zg_st (pc' := 10) (L' := [some (.inr 17), some (.inl x1), some (.inl v2), some (.inl x3)]) (S' := []) (M' := N) rfl rfl rfl rfl ?_
      refine zg_aload_n (x := 17) dJ7_fill_53178_10 rfl ?_
      refine zg_iload_n (x := v2) dJ7_fill_53178_11 rfl ?_
      refine zg_iload_n (x := x1) dJ7_fill_53178_12 rfl ?_
      refine zg_iast dJ7_fill_53178_13 rfl (by simp only [q_isFile, q_isBlock, q_isBlockOfFile, q_isMirror, q_isSideOfMirror, q_isCell, q_isPlaceNumber, q_isCellOnSide, q_isPointer, q_isBlockPointer, vp_in_iff, Int32.lt_iff_toInt_lt, Int32.le_iff_toInt_le, Int32.reduceToInt] at c7 hI hx3 ⊢; omega) ?_
      refine zg_iinc (v := (v2 + 1)) dJ7_fill_53178_14 rfl (by decide) rfl ?_
      refine zg_st (pc' := 17) (L' := [some (.inr 17), some (.inl x1), some (.inl (v2 + 1)), some (.inl x3)]) (S' := []) (M' := (mup N 17 v2.toNatClampNeg x1)) rfl rfl rfl rfl ?_
      refine zg_goto (tgt := 5) dJ7_fill_53178_17 rfl ?_
      refine zg_st (pc' := 5) (L' := [some (.inr 17), some (.inl x1), some (.inl (v2 + 1)), some (.inl x3)]) (S' := []) (M' := (mup N 17 v2.toNatClampNeg x1)) rfl rfl rfl rfl ?_
      refine zg_drop (L' := [some (.inr 17), some (.inl x1), some (.inl (v2 + 1)), some (.inl x3)]) ⟨rfl, rfl, rfl, rfl, trivial⟩ ?_
      exact ih (v2 + 1) (mup N 17 v2.toNatClampNeg x1) (z_ge0 c7 hI) (z_up c7 hm)
def f_J7_fill_53178_17 (p1 : Int32) (M : Mem) : Mem :=
  zlet (l_J7_fill_53178_17_5 p1 3 4 0 M) (fun s1 =>
  s1.2)
set_option maxRecDepth 100000 in
set_option maxHeartbeats 4000000 in
theorem k_J7_fill_53178_17 (q : ZQ) (p1 : Int32) (M : Mem) : Zc (zgX q) mJ7_fill_53178 0 0 [.inr 17, .inl p1] M (wV (f_J7_fill_53178_17 p1 M)) := by
  refine Zc.of (by decide) zi_J7_fill_53178.1 (Nat.le_of_ble_eq_true rfl) rfl ?_
  show Zg _ _ _ _ _ _ (zlet (f_J7_fill_53178_17 p1 M) wV) _ _ _ _
  unfold f_J7_fill_53178_17
  refine zg_iconst (v := 0) dJ7_fill_53178_0 rfl ?_
  refine zg_istore_n dJ7_fill_53178_1 (by decide) ?_
  refine zg_st (pc' := 2) (L' := [some (.inr 17), some (.inl p1), some (.inl 0), none]) (S' := []) (M' := M) rfl rfl rfl rfl ?_
  refine zg_aload_n (x := 17) dJ7_fill_53178_2 rfl ?_
  refine zg_alen (v := 3) dJ7_fill_53178_3 rfl rfl ?_
  refine zg_istore_n dJ7_fill_53178_4 (by decide) ?_
  refine zg_st (pc' := 5) (L' := [some (.inr 17), some (.inl p1), some (.inl 0), some (.inl 3)]) (S' := []) (M' := M) rfl rfl rfl rfl ?_
  refine zg_asc ?_
  refine zg_drop (L' := [some (.inr 17), some (.inl p1), some (.inl 0), some (.inl 3)]) ⟨rfl, rfl, rfl, rfl, trivial⟩ ?_
  refine kl_J7_fill_53178_17_5 q p1 3  (by decide) (fun s1 hI_s1 => ?_) 4 0 M (by decide) (by decide)
  try dsimp only [Sum.elim_inr]
  refine zg_st (pc' := 20) (L' := [some (.inr 17), some (.inl p1), some (.inl s1.1), some (.inl 3)]) (S' := []) (M' := s1.2) rfl rfl rfl rfl ?_
  exact zg_vret dJ7_fill_53178_20 rfl ⟨by decide, by decide⟩ rfl
theorem dX0_isUsed_0 : decode cX0_isUsed 0 = .ok (.iload_n 1, 1) := by decide +kernel
theorem dX0_isUsed_1 : decode cX0_isUsed 1 = .ok (.invokestatic 29, 3) := by decide +kernel
theorem dX0_isUsed_4 : decode cX0_isUsed 4 = .ok (.ifCond .eq 16, 3) := by decide +kernel
theorem dX0_isUsed_7 : decode cX0_isUsed 7 = .ok (.aload_n 0, 1) := by decide +kernel
theorem dX0_isUsed_8 : decode cX0_isUsed 8 = .ok (.getfield 9, 3) := by decide +kernel
theorem dX0_isUsed_11 : decode cX0_isUsed 11 = .ok (.iload_n 1, 1) := by decide +kernel
theorem dX0_isUsed_12 : decode cX0_isUsed 12 = .ok (.baload, 1) := by decide +kernel
theorem dX0_isUsed_13 : decode cX0_isUsed 13 = .ok (.ifCond .eq 7, 3) := by decide +kernel
theorem dX0_isUsed_16 : decode cX0_isUsed 16 = .ok (.iconst 1, 1) := by decide +kernel
theorem dX0_isUsed_17 : decode cX0_isUsed 17 = .ok (.goto 4, 3) := by decide +kernel
theorem dX0_isUsed_20 : decode cX0_isUsed 20 = .ok (.iconst 0, 1) := by decide +kernel
theorem dX0_isUsed_21 : decode cX0_isUsed 21 = .ok (.ireturn, 1) := by decide +kernel
def f_X0_isUsed (p1 : Int32) (M : Mem) : Bool :=
  if (f_X4_isPlaceNumber p1) then if (M 6 p1.toNatClampNeg) = 0 then false
    else true
  else false
set_option maxRecDepth 100000 in
set_option maxHeartbeats 4000000 in
theorem k_X0_isUsed (q : ZQ) (p1 : Int32) (M : Mem) : Zc (zgX q) mX0_isUsed 0 0 [.inr 1, .inl p1] M (wB M (f_X0_isUsed p1 M)) := by
  refine Zc.of (by decide) zi_X0_isUsed.1 (Nat.le_of_ble_eq_true rfl) rfl ?_
  show Zg _ _ _ _ _ _ (zlet (f_X0_isUsed p1 M) (wB M)) _ _ _ _
  unfold f_X0_isUsed
  refine zg_iload_n (x := p1) dX0_isUsed_0 rfl ?_
  refine zg_cN1 (As := [.inl p1]) (S := []) (v := bI ((f_X4_isPlaceNumber p1))) dX0_isUsed_1 zk_X0_29 (k_X4_isPlaceNumber q p1 M) rfl ⟨by decide, by decide⟩ ⟨by decide, by decide⟩ rfl (Nat.le_of_ble_eq_true rfl) ?_
  refine zg_st (pc' := 4) (L' := [some (.inr 1), some (.inl p1)]) (S' := [.inl (bI ((f_X4_isPlaceNumber p1)))]) (M' := M) rfl rfl rfl rfl ?_
  refine zg_ifbe (tgt := 20) dX0_isUsed_4 rfl (fun c4 => ?_) (fun c4 => ?_)
  · refine zg_st (pc' := 7) (L' := [some (.inr 1), some (.inl p1)]) (S' := []) (M' := M) rfl rfl rfl rfl ?_
    refine zg_aload_n (x := 1) dX0_isUsed_7 rfl ?_
    refine zg_getf (v := .inr 6) dX0_isUsed_8 zf_X0_9 rfl rfl rfl ?_
    refine zg_iload_n (x := p1) dX0_isUsed_11 rfl ?_
    refine zg_zald dX0_isUsed_12 rfl (by simp only [q_isFile, q_isBlock, q_isBlockOfFile, q_isMirror, q_isSideOfMirror, q_isCell, q_isPlaceNumber, q_isCellOnSide, q_isPointer, q_isBlockPointer, vp_in_iff, Int32.lt_iff_toInt_lt, Int32.le_iff_toInt_le, Int32.reduceToInt] at c4 ⊢; omega) ?_
    refine zg_ifz (tgt := 20) dX0_isUsed_13 rfl rfl (fun c13 => ?_) (fun c13 => ?_)
    · refine zg_st (pc' := 20) (L' := [some (.inr 1), some (.inl p1)]) (S' := []) (M' := M) rfl rfl rfl rfl ?_
      refine zg_iconst (v := 0) dX0_isUsed_20 rfl ?_
      exact zg_iret dX0_isUsed_21 rfl rfl ⟨by decide, by decide⟩ rfl
    · refine zg_st (pc' := 16) (L' := [some (.inr 1), some (.inl p1)]) (S' := []) (M' := M) rfl rfl rfl rfl ?_
      refine zg_iconst (v := 1) dX0_isUsed_16 rfl ?_
      refine zg_goto (tgt := 21) dX0_isUsed_17 rfl ?_
      refine zg_st (pc' := 21) (L' := [some (.inr 1), some (.inl p1)]) (S' := [.inl 1]) (M' := M) rfl rfl rfl rfl ?_
      exact zg_iret dX0_isUsed_21 rfl rfl ⟨by decide, by decide⟩ rfl
  · refine zg_st (pc' := 20) (L' := [some (.inr 1), some (.inl p1)]) (S' := []) (M' := M) rfl rfl rfl rfl ?_
    refine zg_iconst (v := 0) dX0_isUsed_20 rfl ?_
    exact zg_iret dX0_isUsed_21 rfl rfl ⟨by decide, by decide⟩ rfl
theorem dX0_countFree_0 : decode cX0_countFree 0 = .ok (.iconst 0, 1) := by decide +kernel
theorem dX0_countFree_1 : decode cX0_countFree 1 = .ok (.istore_n 2, 1) := by decide +kernel
theorem dX0_countFree_2 : decode cX0_countFree 2 = .ok (.iconst 0, 1) := by decide +kernel
theorem dX0_countFree_3 : decode cX0_countFree 3 = .ok (.istore_n 3, 1) := by decide +kernel
theorem dX0_countFree_4 : decode cX0_countFree 4 = .ok (.iload_n 3, 1) := by decide +kernel
theorem dX0_countFree_5 : decode cX0_countFree 5 = .ok (.bipush 40, 2) := by decide +kernel
theorem dX0_countFree_7 : decode cX0_countFree 7 = .ok (.if_icmp .ge 24, 3) := by decide +kernel
theorem dX0_countFree_10 : decode cX0_countFree 10 = .ok (.aload_n 0, 1) := by decide +kernel
theorem dX0_countFree_11 : decode cX0_countFree 11 = .ok (.iload_n 1, 1) := by decide +kernel
theorem dX0_countFree_12 : decode cX0_countFree 12 = .ok (.iload_n 3, 1) := by decide +kernel
theorem dX0_countFree_13 : decode cX0_countFree 13 = .ok (.invokestatic 33, 3) := by decide +kernel
theorem dX0_countFree_16 : decode cX0_countFree 16 = .ok (.invokevirtual 37, 3) := by decide +kernel
theorem dX0_countFree_19 : decode cX0_countFree 19 = .ok (.ifCond .ne 6, 3) := by decide +kernel
theorem dX0_countFree_22 : decode cX0_countFree 22 = .ok (.iinc 2 1, 3) := by decide +kernel
theorem dX0_countFree_25 : decode cX0_countFree 25 = .ok (.iinc 3 1, 3) := by decide +kernel
theorem dX0_countFree_28 : decode cX0_countFree 28 = .ok (.goto (-24), 3) := by decide +kernel
theorem dX0_countFree_31 : decode cX0_countFree 31 = .ok (.iload_n 2, 1) := by decide +kernel
theorem dX0_countFree_32 : decode cX0_countFree 32 = .ok (.ireturn, 1) := by decide +kernel
def b_X0_countFree_4 (x1 : Int32) (M : Mem) (rec : Int32 → Int32 → Int32 × Int32) (v2 : Int32) (v3 : Int32) : Int32 × Int32 :=
  if 40 ≤ v3 then (v2, v3)
  else if (f_X0_isUsed (f_X4_placeNumber x1 v3) M) then rec v2 (v3 + 1)
  else rec (v2 + 1) (v3 + 1)
def l_X0_countFree_4 (x1 : Int32) (M : Mem) : Nat → Int32 → Int32 → Int32 × Int32
  | 0, v2, v3 => (v2, v3)
  | n + 1, v2, v3 => b_X0_countFree_4 x1 M (l_X0_countFree_4 x1 M n) v2 v3
set_option maxRecDepth 100000 in
set_option maxHeartbeats 4000000 in
theorem kl_X0_countFree_4 (q : ZQ) (x1 : Int32) (M : Mem) {K : Int32 × Int32 → ZR} (hx : ∀ e : Int32 × Int32, Zg (zgX q) mX0_countFree 0 0 0 0 (K e) 31 [some (.inr 1), some (.inl x1), some (.inl e.1), some (.inl e.2)] [] M) :
    ∀ (n : Nat) (v2 : Int32) (v3 : Int32), ((40 : Int32).toInt - (v3 : Int32).toInt).toNat < n → Zg (zgX q) mX0_countFree 0 0 0 0 (zlet (l_X0_countFree_4 x1 M n v2 v3) K) 4 [some (.inr 1), some (.inl x1), some (.inl v2), some (.inl v3)] [] M := by
  intro n
  induction n with
  | zero => intro v2 v3 hm; exact absurd hm (Nat.not_lt_zero _)
  | succ n ih =>
    intro v2 v3 hm
    show Zg _ _ _ _ _ _ (zlet (b_X0_countFree_4 x1 M (l_X0_countFree_4 x1 M n) v2 v3) K) _ _ _ _
    unfold b_X0_countFree_4
    refine zg_iload_n (x := v3) dX0_countFree_4 rfl ?_
    refine zg_bipush (v := 40) dX0_countFree_5 rfl ?_
    refine zg_icmpz (tgt := 31) dX0_countFree_7 rfl rfl (fun c7 => ?_) (fun c7 => ?_)
    · refine zg_st (pc' := 31) (L' := [some (.inr 1), some (.inl x1), some (.inl v2), some (.inl v3)]) (S' := []) (M' := M) rfl rfl rfl rfl ?_
      refine zg_drop (L' := [some (.inr 1), some (.inl x1), some (.inl v2), some (.inl v3)]) ⟨rfl, rfl, rfl, rfl, trivial⟩ ?_
      exact hx (v2, v3)
    · refine zg_st (pc' := 10) (L' := [some (.inr 1), some (.inl x1), some (.inl v2), some (.inl v3)]) (S' := []) (M' := M) rfl rfl rfl rfl ?_
      refine zg_aload_n (x := 1) dX0_countFree_10 rfl ?_
      refine zg_iload_n (x := x1) dX0_countFree_11 rfl ?_
      refine zg_iload_n (x := v3) dX0_countFree_12 rfl ?_
      refine zg_cN1 (As := [.inl x1, .inl v3]) (S := [.inr 1]) (v := (f_X4_placeNumber x1 v3)) dX0_countFree_13 zk_X0_33 (k_X4_placeNumber q x1 v3 M) rfl ⟨by decide, by decide⟩ ⟨by decide, by decide⟩ rfl (Nat.le_of_ble_eq_true rfl) ?_
      refine zg_st (pc' := 16) (L' := [some (.inr 1), some (.inl x1), some (.inl v2), some (.inl v3)]) (S' := [.inl (f_X4_placeNumber x1 v3), .inr 1]) (M' := M) rfl rfl rfl rfl ?_
      refine zg_cV1 (As := [.inl (f_X4_placeNumber x1 v3)]) (S := []) (v := bI ((f_X0_isUsed (f_X4_placeNumber x1 v3) M))) dX0_countFree_16 zk_X0_37 (k_X0_isUsed q (f_X4_placeNumber x1 v3) M) rfl rfl ⟨by decide, by decide⟩ ⟨by decide, by decide⟩ rfl (Nat.le_of_ble_eq_true rfl) ?_
      refine zg_st (pc' := 19) (L' := [some (.inr 1), some (.inl x1), some (.inl v2), some (.inl v3)]) (S' := [.inl (bI ((f_X0_isUsed (f_X4_placeNumber x1 v3) M)))]) (M' := M) rfl rfl rfl rfl ?_
      refine zg_ifbn (tgt := 25) dX0_countFree_19 rfl (fun c19 => ?_) (fun c19 => ?_)
      · refine zg_st (pc' := 25) (L' := [some (.inr 1), some (.inl x1), some (.inl v2), some (.inl v3)]) (S' := []) (M' := M) rfl rfl rfl rfl ?_
        refine zg_iinc (v := (v3 + 1)) dX0_countFree_25 rfl (by decide) rfl ?_
        refine zg_st (pc' := 28) (L' := [some (.inr 1), some (.inl x1), some (.inl v2), some (.inl (v3 + 1))]) (S' := []) (M' := M) rfl rfl rfl rfl ?_
        refine zg_goto (tgt := 4) dX0_countFree_28 rfl ?_
        refine zg_st (pc' := 4) (L' := [some (.inr 1), some (.inl x1), some (.inl v2), some (.inl (v3 + 1))]) (S' := []) (M' := M) rfl rfl rfl rfl ?_
        refine zg_drop (L' := [some (.inr 1), some (.inl x1), some (.inl v2), some (.inl (v3 + 1))]) ⟨rfl, rfl, rfl, rfl, trivial⟩ ?_
        exact ih v2 (v3 + 1) (z_up c7 hm)
      · refine zg_st (pc' := 22) (L' := [some (.inr 1), some (.inl x1), some (.inl v2), some (.inl v3)]) (S' := []) (M' := M) rfl rfl rfl rfl ?_
        refine zg_iinc (v := (v2 + 1)) dX0_countFree_22 rfl (by decide) rfl ?_
        refine zg_st (pc' := 25) (L' := [some (.inr 1), some (.inl x1), some (.inl (v2 + 1)), some (.inl v3)]) (S' := []) (M' := M) rfl rfl rfl rfl ?_
        refine zg_iinc (v := (v3 + 1)) dX0_countFree_25 rfl (by decide) rfl ?_
        refine zg_st (pc' := 28) (L' := [some (.inr 1), some (.inl x1), some (.inl (v2 + 1)), some (.inl (v3 + 1))]) (S' := []) (M' := M) rfl rfl rfl rfl ?_
        refine zg_goto (tgt := 4) dX0_countFree_28 rfl ?_
        refine zg_st (pc' := 4) (L' := [some (.inr 1), some (.inl x1), some (.inl (v2 + 1)), some (.inl (v3 + 1))]) (S' := []) (M' := M) rfl rfl rfl rfl ?_
        refine zg_drop (L' := [some (.inr 1), some (.inl x1), some (.inl (v2 + 1)), some (.inl (v3 + 1))]) ⟨rfl, rfl, rfl, rfl, trivial⟩ ?_
        exact ih (v2 + 1) (v3 + 1) (z_up c7 hm)
def f_X0_countFree (p1 : Int32) (M : Mem) : Int32 :=
  zlet (l_X0_countFree_4 p1 M 41 0 0) (fun s1 =>
  s1.1)
set_option maxRecDepth 100000 in
set_option maxHeartbeats 4000000 in
theorem k_X0_countFree (q : ZQ) (p1 : Int32) (M : Mem) : Zc (zgX q) mX0_countFree 0 0 [.inr 1, .inl p1] M (wI M (f_X0_countFree p1 M)) := by
  refine Zc.of (by decide) zi_X0_countFree.1 (Nat.le_of_ble_eq_true rfl) rfl ?_
  show Zg _ _ _ _ _ _ (zlet (f_X0_countFree p1 M) (wI M)) _ _ _ _
  unfold f_X0_countFree
  refine zg_iconst (v := 0) dX0_countFree_0 rfl ?_
  refine zg_istore_n dX0_countFree_1 (by decide) ?_
  refine zg_st (pc' := 2) (L' := [some (.inr 1), some (.inl p1), some (.inl 0), none]) (S' := []) (M' := M) rfl rfl rfl rfl ?_
  refine zg_iconst (v := 0) dX0_countFree_2 rfl ?_
  refine zg_istore_n dX0_countFree_3 (by decide) ?_
  refine zg_st (pc' := 4) (L' := [some (.inr 1), some (.inl p1), some (.inl 0), some (.inl 0)]) (S' := []) (M' := M) rfl rfl rfl rfl ?_
  refine zg_asc ?_
  refine zg_drop (L' := [some (.inr 1), some (.inl p1), some (.inl 0), some (.inl 0)]) ⟨rfl, rfl, rfl, rfl, trivial⟩ ?_
  refine kl_X0_countFree_4 q p1 M (fun s1 => ?_) 41 0 0 (by decide)
  try dsimp only [Sum.elim_inr]
  refine zg_st (pc' := 31) (L' := [some (.inr 1), some (.inl p1), some (.inl s1.1), some (.inl s1.2)]) (S' := []) (M' := M) rfl rfl rfl rfl ?_
  refine zg_iload_n (x := s1.1) dX0_countFree_31 rfl ?_
  exact zg_iret dX0_countFree_32 rfl rfl ⟨by decide, by decide⟩ rfl
theorem dX2_changes_0 : decode cX2_changes 0 = .ok (.iconst 0, 1) := by decide +kernel
theorem dX2_changes_1 : decode cX2_changes 1 = .ok (.istore_n 2, 1) := by decide +kernel
theorem dX2_changes_2 : decode cX2_changes 2 = .ok (.iload_n 2, 1) := by decide +kernel
theorem dX2_changes_3 : decode cX2_changes 3 = .ok (.bipush 12, 2) := by decide +kernel
theorem dX2_changes_5 : decode cX2_changes 5 = .ok (.if_icmp .ge 23, 3) := by decide +kernel
theorem dX2_changes_8 : decode cX2_changes 8 = .ok (.aload_n 0, 1) := by decide +kernel
theorem dX2_changes_9 : decode cX2_changes 9 = .ok (.iload_n 1, 1) := by decide +kernel
theorem dX2_changes_10 : decode cX2_changes 10 = .ok (.iload_n 2, 1) := by decide +kernel
theorem dX2_changes_11 : decode cX2_changes 11 = .ok (.invokestatic 29, 3) := by decide +kernel
theorem dX2_changes_14 : decode cX2_changes 14 = .ok (.invokevirtual 33, 3) := by decide +kernel
theorem dX2_changes_17 : decode cX2_changes 17 = .ok (.ifCond .eq 5, 3) := by decide +kernel
theorem dX2_changes_20 : decode cX2_changes 20 = .ok (.iconst 1, 1) := by decide +kernel
theorem dX2_changes_21 : decode cX2_changes 21 = .ok (.ireturn, 1) := by decide +kernel
theorem dX2_changes_22 : decode cX2_changes 22 = .ok (.iinc 2 1, 3) := by decide +kernel
theorem dX2_changes_25 : decode cX2_changes 25 = .ok (.goto (-23), 3) := by decide +kernel
theorem dX2_changes_28 : decode cX2_changes 28 = .ok (.iconst 0, 1) := by decide +kernel
theorem dX2_changes_29 : decode cX2_changes 29 = .ok (.ireturn, 1) := by decide +kernel
def b_X2_changes_2 (x1 : Int32) (M : Mem) (rec : Int32 → Bool ⊕ (Int32)) (v2 : Int32) : Bool ⊕ (Int32) :=
  if 12 ≤ v2 then .inr v2
  else if (f_X2_holds (f_X4_blockPointer x1 v2) M) then .inl true
  else rec (v2 + 1)
def l_X2_changes_2 (x1 : Int32) (M : Mem) : Nat → Int32 → Bool ⊕ (Int32)
  | 0, v2 => .inr v2
  | n + 1, v2 => b_X2_changes_2 x1 M (l_X2_changes_2 x1 M n) v2
set_option maxRecDepth 100000 in
set_option maxHeartbeats 4000000 in
theorem kl_X2_changes_2 (q : ZQ) (x1 : Int32) (M : Mem) {K : Bool ⊕ (Int32) → ZR} (hret : ∀ r : Bool, K (.inl r) = (wB M) r) (hx : ∀ e : Int32, Zg (zgX q) mX2_changes 0 0 0 0 (K (.inr e)) 28 [some (.inr 3), some (.inl x1), some (.inl e)] [] M) :
    ∀ (n : Nat) (v2 : Int32), ((12 : Int32).toInt - (v2 : Int32).toInt).toNat < n → Zg (zgX q) mX2_changes 0 0 0 0 (zlet (l_X2_changes_2 x1 M n v2) K) 2 [some (.inr 3), some (.inl x1), some (.inl v2)] [] M := by
  intro n
  induction n with
  | zero => intro v2 hm; exact absurd hm (Nat.not_lt_zero _)
  | succ n ih =>
    intro v2 hm
    show Zg _ _ _ _ _ _ (zlet (b_X2_changes_2 x1 M (l_X2_changes_2 x1 M n) v2) K) _ _ _ _
    unfold b_X2_changes_2
    refine zg_iload_n (x := v2) dX2_changes_2 rfl ?_
    refine zg_bipush (v := 12) dX2_changes_3 rfl ?_
    refine zg_icmpz (tgt := 28) dX2_changes_5 rfl rfl (fun c5 => ?_) (fun c5 => ?_)
    · refine zg_st (pc' := 28) (L' := [some (.inr 3), some (.inl x1), some (.inl v2)]) (S' := []) (M' := M) rfl rfl rfl rfl ?_
      refine zg_drop (L' := [some (.inr 3), some (.inl x1), some (.inl v2)]) ⟨rfl, rfl, rfl, trivial⟩ ?_
      exact hx v2
    · refine zg_st (pc' := 8) (L' := [some (.inr 3), some (.inl x1), some (.inl v2)]) (S' := []) (M' := M) rfl rfl rfl rfl ?_
      refine zg_aload_n (x := 3) dX2_changes_8 rfl ?_
      refine zg_iload_n (x := x1) dX2_changes_9 rfl ?_
      refine zg_iload_n (x := v2) dX2_changes_10 rfl ?_
      refine zg_cN1 (As := [.inl x1, .inl v2]) (S := [.inr 3]) (v := (f_X4_blockPointer x1 v2)) dX2_changes_11 zk_X2_29 (k_X4_blockPointer q x1 v2 M) rfl ⟨by decide, by decide⟩ ⟨by decide, by decide⟩ rfl (Nat.le_of_ble_eq_true rfl) ?_
      refine zg_st (pc' := 14) (L' := [some (.inr 3), some (.inl x1), some (.inl v2)]) (S' := [.inl (f_X4_blockPointer x1 v2), .inr 3]) (M' := M) rfl rfl rfl rfl ?_
      refine zg_cV1 (As := [.inl (f_X4_blockPointer x1 v2)]) (S := []) (v := bI ((f_X2_holds (f_X4_blockPointer x1 v2) M))) dX2_changes_14 zk_X2_33 (k_X2_holds q (f_X4_blockPointer x1 v2) M) rfl rfl ⟨by decide, by decide⟩ ⟨by decide, by decide⟩ rfl (Nat.le_of_ble_eq_true rfl) ?_
      refine zg_st (pc' := 17) (L' := [some (.inr 3), some (.inl x1), some (.inl v2)]) (S' := [.inl (bI ((f_X2_holds (f_X4_blockPointer x1 v2) M)))]) (M' := M) rfl rfl rfl rfl ?_
      refine zg_ifbe (tgt := 22) dX2_changes_17 rfl (fun c17 => ?_) (fun c17 => ?_)
      · refine zg_st (pc' := 20) (L' := [some (.inr 3), some (.inl x1), some (.inl v2)]) (S' := []) (M' := M) rfl rfl rfl rfl ?_
        refine zg_iconst (v := 1) dX2_changes_20 rfl ?_
        exact zg_iret dX2_changes_21 rfl rfl ⟨by decide, by decide⟩ (hret _)
      · refine zg_st (pc' := 22) (L' := [some (.inr 3), some (.inl x1), some (.inl v2)]) (S' := []) (M' := M) rfl rfl rfl rfl ?_
        refine zg_iinc (v := (v2 + 1)) dX2_changes_22 rfl (by decide) rfl ?_
        refine zg_st (pc' := 25) (L' := [some (.inr 3), some (.inl x1), some (.inl (v2 + 1))]) (S' := []) (M' := M) rfl rfl rfl rfl ?_
        refine zg_goto (tgt := 2) dX2_changes_25 rfl ?_
        refine zg_st (pc' := 2) (L' := [some (.inr 3), some (.inl x1), some (.inl (v2 + 1))]) (S' := []) (M' := M) rfl rfl rfl rfl ?_
        refine zg_drop (L' := [some (.inr 3), some (.inl x1), some (.inl (v2 + 1))]) ⟨rfl, rfl, rfl, trivial⟩ ?_
        exact ih (v2 + 1) (z_up c5 hm)
def f_X2_changes (p1 : Int32) (M : Mem) : Bool :=
  zlet (l_X2_changes_2 p1 M 13 0) (fun s1 => Sum.elim (fun r => r) (fun e_s1 =>
  false) s1)
set_option maxRecDepth 100000 in
set_option maxHeartbeats 4000000 in
theorem k_X2_changes (q : ZQ) (p1 : Int32) (M : Mem) : Zc (zgX q) mX2_changes 0 0 [.inr 3, .inl p1] M (wB M (f_X2_changes p1 M)) := by
  refine Zc.of (by decide) zi_X2_changes.1 (Nat.le_of_ble_eq_true rfl) rfl ?_
  show Zg _ _ _ _ _ _ (zlet (f_X2_changes p1 M) (wB M)) _ _ _ _
  unfold f_X2_changes
  refine zg_iconst (v := 0) dX2_changes_0 rfl ?_
  refine zg_istore_n dX2_changes_1 (by decide) ?_
  refine zg_st (pc' := 2) (L' := [some (.inr 3), some (.inl p1), some (.inl 0)]) (S' := []) (M' := M) rfl rfl rfl rfl ?_
  refine zg_asc ?_
  refine zg_drop (L' := [some (.inr 3), some (.inl p1), some (.inl 0)]) ⟨rfl, rfl, rfl, trivial⟩ ?_
  refine kl_X2_changes_2 q p1 M ?_ (fun e_s1 => ?_) 13 0 (by decide)
  · exact fun r => rfl
  try dsimp only [Sum.elim_inr]
  refine zg_st (pc' := 28) (L' := [some (.inr 3), some (.inl p1), some (.inl e_s1)]) (S' := []) (M' := M) rfl rfl rfl rfl ?_
  refine zg_iconst (v := 0) dX2_changes_28 rfl ?_
  exact zg_iret dX2_changes_29 rfl rfl ⟨by decide, by decide⟩ rfl
theorem dX3_keepValue_0 : decode cX3_keepValue 0 = .ok (.iload_n 1, 1) := by decide +kernel
theorem dX3_keepValue_1 : decode cX3_keepValue 1 = .ok (.invokestatic 33, 3) := by decide +kernel
theorem dX3_keepValue_4 : decode cX3_keepValue 4 = .ok (.ifCond .eq 10, 3) := by decide +kernel
theorem dX3_keepValue_7 : decode cX3_keepValue 7 = .ok (.aload_n 0, 1) := by decide +kernel
theorem dX3_keepValue_8 : decode cX3_keepValue 8 = .ok (.getfield 9, 3) := by decide +kernel
theorem dX3_keepValue_11 : decode cX3_keepValue 11 = .ok (.iload_n 1, 1) := by decide +kernel
theorem dX3_keepValue_12 : decode cX3_keepValue 12 = .ok (.iload_n 2, 1) := by decide +kernel
theorem dX3_keepValue_13 : decode cX3_keepValue 13 = .ok (.iastore, 1) := by decide +kernel
theorem dX3_keepValue_14 : decode cX3_keepValue 14 = .ok (.return_, 1) := by decide +kernel
def f_X3_keepValue (p1 : Int32) (p2 : Int32) (M : Mem) : Mem :=
  if (f_X4_isBlockPointer p1) then (mup M 10 p1.toNatClampNeg p2)
  else M
set_option maxRecDepth 100000 in
set_option maxHeartbeats 4000000 in
theorem k_X3_keepValue (q : ZQ) (p1 : Int32) (p2 : Int32) (M : Mem) : Zc (zgX q) mX3_keepValue 0 0 [.inr 2, .inl p1, .inl p2] M (wV (f_X3_keepValue p1 p2 M)) := by
  refine Zc.of (by decide) zi_X3_keepValue.1 (Nat.le_of_ble_eq_true rfl) rfl ?_
  show Zg _ _ _ _ _ _ (zlet (f_X3_keepValue p1 p2 M) wV) _ _ _ _
  unfold f_X3_keepValue
  refine zg_iload_n (x := p1) dX3_keepValue_0 rfl ?_
  refine zg_cN1 (As := [.inl p1]) (S := []) (v := bI ((f_X4_isBlockPointer p1))) dX3_keepValue_1 zk_X3_33 (k_X4_isBlockPointer q p1 M) rfl ⟨by decide, by decide⟩ ⟨by decide, by decide⟩ rfl (Nat.le_of_ble_eq_true rfl) ?_
  refine zg_st (pc' := 4) (L' := [some (.inr 2), some (.inl p1), some (.inl p2)]) (S' := [.inl (bI ((f_X4_isBlockPointer p1)))]) (M' := M) rfl rfl rfl rfl ?_
  refine zg_ifbe (tgt := 14) dX3_keepValue_4 rfl (fun c4 => ?_) (fun c4 => ?_)
  · refine zg_st (pc' := 7) (L' := [some (.inr 2), some (.inl p1), some (.inl p2)]) (S' := []) (M' := M) rfl rfl rfl rfl ?_
    refine zg_aload_n (x := 2) dX3_keepValue_7 rfl ?_
    refine zg_getf (v := .inr 10) dX3_keepValue_8 zf_X3_9 rfl rfl rfl ?_
    refine zg_iload_n (x := p1) dX3_keepValue_11 rfl ?_
    refine zg_iload_n (x := p2) dX3_keepValue_12 rfl ?_
    refine zg_iast dX3_keepValue_13 rfl (by simp only [q_isFile, q_isBlock, q_isBlockOfFile, q_isMirror, q_isSideOfMirror, q_isCell, q_isPlaceNumber, q_isCellOnSide, q_isPointer, q_isBlockPointer, vp_in_iff, Int32.lt_iff_toInt_lt, Int32.le_iff_toInt_le, Int32.reduceToInt] at c4 ⊢; omega) ?_
    exact zg_vret dX3_keepValue_14 rfl ⟨by decide, by decide⟩ rfl
  · refine zg_st (pc' := 14) (L' := [some (.inr 2), some (.inl p1), some (.inl p2)]) (S' := []) (M' := M) rfl rfl rfl rfl ?_
    exact zg_vret dX3_keepValue_14 rfl ⟨by decide, by decide⟩ rfl
theorem dX3_point_0 : decode cX3_point 0 = .ok (.iload_n 1, 1) := by decide +kernel
theorem dX3_point_1 : decode cX3_point 1 = .ok (.invokestatic 41, 3) := by decide +kernel
theorem dX3_point_4 : decode cX3_point 4 = .ok (.ifCond .eq 17, 3) := by decide +kernel
theorem dX3_point_7 : decode cX3_point 7 = .ok (.aload_n 0, 1) := by decide +kernel
theorem dX3_point_8 : decode cX3_point 8 = .ok (.getfield 21, 3) := by decide +kernel
theorem dX3_point_11 : decode cX3_point 11 = .ok (.iload_n 1, 1) := by decide +kernel
theorem dX3_point_12 : decode cX3_point 12 = .ok (.iload_n 2, 1) := by decide +kernel
theorem dX3_point_13 : decode cX3_point 13 = .ok (.iastore, 1) := by decide +kernel
theorem dX3_point_14 : decode cX3_point 14 = .ok (.aload_n 0, 1) := by decide +kernel
theorem dX3_point_15 : decode cX3_point 15 = .ok (.getfield 24, 3) := by decide +kernel
theorem dX3_point_18 : decode cX3_point 18 = .ok (.iload_n 1, 1) := by decide +kernel
theorem dX3_point_19 : decode cX3_point 19 = .ok (.iload_n 3, 1) := by decide +kernel
theorem dX3_point_20 : decode cX3_point 20 = .ok (.iastore, 1) := by decide +kernel
theorem dX3_point_21 : decode cX3_point 21 = .ok (.return_, 1) := by decide +kernel
def f_X3_point (p1 : Int32) (p2 : Int32) (p3 : Int32) (M : Mem) : Mem :=
  if (f_X4_isPointer p1) then (mup (mup M 11 p1.toNatClampNeg p2) 12 p1.toNatClampNeg p3)
  else M
set_option maxRecDepth 100000 in
set_option maxHeartbeats 4000000 in
theorem k_X3_point (q : ZQ) (p1 : Int32) (p2 : Int32) (p3 : Int32) (M : Mem) : Zc (zgX q) mX3_point 0 0 [.inr 2, .inl p1, .inl p2, .inl p3] M (wV (f_X3_point p1 p2 p3 M)) := by
  refine Zc.of (by decide) zi_X3_point.1 (Nat.le_of_ble_eq_true rfl) rfl ?_
  show Zg _ _ _ _ _ _ (zlet (f_X3_point p1 p2 p3 M) wV) _ _ _ _
  unfold f_X3_point
  refine zg_iload_n (x := p1) dX3_point_0 rfl ?_
  refine zg_cN1 (As := [.inl p1]) (S := []) (v := bI ((f_X4_isPointer p1))) dX3_point_1 zk_X3_41 (k_X4_isPointer q p1 M) rfl ⟨by decide, by decide⟩ ⟨by decide, by decide⟩ rfl (Nat.le_of_ble_eq_true rfl) ?_
  refine zg_st (pc' := 4) (L' := [some (.inr 2), some (.inl p1), some (.inl p2), some (.inl p3)]) (S' := [.inl (bI ((f_X4_isPointer p1)))]) (M' := M) rfl rfl rfl rfl ?_
  refine zg_ifbe (tgt := 21) dX3_point_4 rfl (fun c4 => ?_) (fun c4 => ?_)
  · refine zg_st (pc' := 7) (L' := [some (.inr 2), some (.inl p1), some (.inl p2), some (.inl p3)]) (S' := []) (M' := M) rfl rfl rfl rfl ?_
    refine zg_aload_n (x := 2) dX3_point_7 rfl ?_
    refine zg_getf (v := .inr 11) dX3_point_8 zf_X3_21 rfl rfl rfl ?_
    refine zg_iload_n (x := p1) dX3_point_11 rfl ?_
    refine zg_iload_n (x := p2) dX3_point_12 rfl ?_
    refine zg_iast dX3_point_13 rfl (by simp only [q_isFile, q_isBlock, q_isBlockOfFile, q_isMirror, q_isSideOfMirror, q_isCell, q_isPlaceNumber, q_isCellOnSide, q_isPointer, q_isBlockPointer, vp_in_iff, Int32.lt_iff_toInt_lt, Int32.le_iff_toInt_le, Int32.reduceToInt] at c4 ⊢; omega) ?_
    refine zg_aload_n (x := 2) dX3_point_14 rfl ?_
    refine zg_getf (v := .inr 12) dX3_point_15 zf_X3_24 rfl rfl rfl ?_
    refine zg_iload_n (x := p1) dX3_point_18 rfl ?_
    refine zg_iload_n (x := p3) dX3_point_19 rfl ?_
    refine zg_iast dX3_point_20 rfl (by simp only [q_isFile, q_isBlock, q_isBlockOfFile, q_isMirror, q_isSideOfMirror, q_isCell, q_isPlaceNumber, q_isCellOnSide, q_isPointer, q_isBlockPointer, vp_in_iff, Int32.lt_iff_toInt_lt, Int32.le_iff_toInt_le, Int32.reduceToInt] at c4 ⊢; omega) ?_
    exact zg_vret dX3_point_21 rfl ⟨by decide, by decide⟩ rfl
  · refine zg_st (pc' := 21) (L' := [some (.inr 2), some (.inl p1), some (.inl p2), some (.inl p3)]) (S' := []) (M' := M) rfl rfl rfl rfl ?_
    exact zg_vret dX3_point_21 rfl ⟨by decide, by decide⟩ rfl
theorem dX3_sign_0 : decode cX3_sign 0 = .ok (.iload_n 1, 1) := by decide +kernel
theorem dX3_sign_1 : decode cX3_sign 1 = .ok (.invokestatic 41, 3) := by decide +kernel
theorem dX3_sign_4 : decode cX3_sign 4 = .ok (.ifCond .eq 17, 3) := by decide +kernel
theorem dX3_sign_7 : decode cX3_sign 7 = .ok (.aload_n 0, 1) := by decide +kernel
theorem dX3_sign_8 : decode cX3_sign 8 = .ok (.getfield 27, 3) := by decide +kernel
theorem dX3_sign_11 : decode cX3_sign 11 = .ok (.iload_n 1, 1) := by decide +kernel
theorem dX3_sign_12 : decode cX3_sign 12 = .ok (.iload_n 2, 1) := by decide +kernel
theorem dX3_sign_13 : decode cX3_sign 13 = .ok (.iastore, 1) := by decide +kernel
theorem dX3_sign_14 : decode cX3_sign 14 = .ok (.aload_n 0, 1) := by decide +kernel
theorem dX3_sign_15 : decode cX3_sign 15 = .ok (.getfield 30, 3) := by decide +kernel
theorem dX3_sign_18 : decode cX3_sign 18 = .ok (.iload_n 1, 1) := by decide +kernel
theorem dX3_sign_19 : decode cX3_sign 19 = .ok (.iload_n 3, 1) := by decide +kernel
theorem dX3_sign_20 : decode cX3_sign 20 = .ok (.iastore, 1) := by decide +kernel
theorem dX3_sign_21 : decode cX3_sign 21 = .ok (.return_, 1) := by decide +kernel
def f_X3_sign (p1 : Int32) (p2 : Int32) (p3 : Int32) (M : Mem) : Mem :=
  if (f_X4_isPointer p1) then (mup (mup M 13 p1.toNatClampNeg p2) 14 p1.toNatClampNeg p3)
  else M
set_option maxRecDepth 100000 in
set_option maxHeartbeats 4000000 in
theorem k_X3_sign (q : ZQ) (p1 : Int32) (p2 : Int32) (p3 : Int32) (M : Mem) : Zc (zgX q) mX3_sign 0 0 [.inr 2, .inl p1, .inl p2, .inl p3] M (wV (f_X3_sign p1 p2 p3 M)) := by
  refine Zc.of (by decide) zi_X3_sign.1 (Nat.le_of_ble_eq_true rfl) rfl ?_
  show Zg _ _ _ _ _ _ (zlet (f_X3_sign p1 p2 p3 M) wV) _ _ _ _
  unfold f_X3_sign
  refine zg_iload_n (x := p1) dX3_sign_0 rfl ?_
  refine zg_cN1 (As := [.inl p1]) (S := []) (v := bI ((f_X4_isPointer p1))) dX3_sign_1 zk_X3_41 (k_X4_isPointer q p1 M) rfl ⟨by decide, by decide⟩ ⟨by decide, by decide⟩ rfl (Nat.le_of_ble_eq_true rfl) ?_
  refine zg_st (pc' := 4) (L' := [some (.inr 2), some (.inl p1), some (.inl p2), some (.inl p3)]) (S' := [.inl (bI ((f_X4_isPointer p1)))]) (M' := M) rfl rfl rfl rfl ?_
  refine zg_ifbe (tgt := 21) dX3_sign_4 rfl (fun c4 => ?_) (fun c4 => ?_)
  · refine zg_st (pc' := 7) (L' := [some (.inr 2), some (.inl p1), some (.inl p2), some (.inl p3)]) (S' := []) (M' := M) rfl rfl rfl rfl ?_
    refine zg_aload_n (x := 2) dX3_sign_7 rfl ?_
    refine zg_getf (v := .inr 13) dX3_sign_8 zf_X3_27 rfl rfl rfl ?_
    refine zg_iload_n (x := p1) dX3_sign_11 rfl ?_
    refine zg_iload_n (x := p2) dX3_sign_12 rfl ?_
    refine zg_iast dX3_sign_13 rfl (by simp only [q_isFile, q_isBlock, q_isBlockOfFile, q_isMirror, q_isSideOfMirror, q_isCell, q_isPlaceNumber, q_isCellOnSide, q_isPointer, q_isBlockPointer, vp_in_iff, Int32.lt_iff_toInt_lt, Int32.le_iff_toInt_le, Int32.reduceToInt] at c4 ⊢; omega) ?_
    refine zg_aload_n (x := 2) dX3_sign_14 rfl ?_
    refine zg_getf (v := .inr 14) dX3_sign_15 zf_X3_30 rfl rfl rfl ?_
    refine zg_iload_n (x := p1) dX3_sign_18 rfl ?_
    refine zg_iload_n (x := p3) dX3_sign_19 rfl ?_
    refine zg_iast dX3_sign_20 rfl (by simp only [q_isFile, q_isBlock, q_isBlockOfFile, q_isMirror, q_isSideOfMirror, q_isCell, q_isPlaceNumber, q_isCellOnSide, q_isPointer, q_isBlockPointer, vp_in_iff, Int32.lt_iff_toInt_lt, Int32.le_iff_toInt_le, Int32.reduceToInt] at c4 ⊢; omega) ?_
    exact zg_vret dX3_sign_21 rfl ⟨by decide, by decide⟩ rfl
  · refine zg_st (pc' := 21) (L' := [some (.inr 2), some (.inl p1), some (.inl p2), some (.inl p3)]) (S' := []) (M' := M) rfl rfl rfl rfl ?_
    exact zg_vret dX3_sign_21 rfl ⟨by decide, by decide⟩ rfl
theorem dX0_fill_0 : decode cX0_fill 0 = .ok (.iconst 0, 1) := by decide +kernel
theorem dX0_fill_1 : decode cX0_fill 1 = .ok (.istore_n 2, 1) := by decide +kernel
theorem dX0_fill_2 : decode cX0_fill 2 = .ok (.iload_n 2, 1) := by decide +kernel
theorem dX0_fill_3 : decode cX0_fill 3 = .ok (.iconst 2, 1) := by decide +kernel
theorem dX0_fill_4 : decode cX0_fill 4 = .ok (.if_icmp .ge 35, 3) := by decide +kernel
theorem dX0_fill_7 : decode cX0_fill 7 = .ok (.iload_n 1, 1) := by decide +kernel
theorem dX0_fill_8 : decode cX0_fill 8 = .ok (.invokestatic 29, 3) := by decide +kernel
theorem dX0_fill_11 : decode cX0_fill 11 = .ok (.ifCond .eq 22, 3) := by decide +kernel
theorem dX0_fill_14 : decode cX0_fill 14 = .ok (.aload_n 0, 1) := by decide +kernel
theorem dX0_fill_15 : decode cX0_fill 15 = .ok (.iload_n 1, 1) := by decide +kernel
theorem dX0_fill_16 : decode cX0_fill 16 = .ok (.invokestatic 43, 3) := by decide +kernel
theorem dX0_fill_19 : decode cX0_fill 19 = .ok (.iload_n 2, 1) := by decide +kernel
theorem dX0_fill_20 : decode cX0_fill 20 = .ok (.invokevirtual 50, 3) := by decide +kernel
theorem dX0_fill_23 : decode cX0_fill 23 = .ok (.ifCond .eq 10, 3) := by decide +kernel
theorem dX0_fill_26 : decode cX0_fill 26 = .ok (.aload_n 0, 1) := by decide +kernel
theorem dX0_fill_27 : decode cX0_fill 27 = .ok (.iload_n 1, 1) := by decide +kernel
theorem dX0_fill_28 : decode cX0_fill 28 = .ok (.iload_n 2, 1) := by decide +kernel
theorem dX0_fill_29 : decode cX0_fill 29 = .ok (.iconst 0, 1) := by decide +kernel
theorem dX0_fill_30 : decode cX0_fill 30 = .ok (.invokevirtual 53, 3) := by decide +kernel
theorem dX0_fill_33 : decode cX0_fill 33 = .ok (.iinc 2 1, 3) := by decide +kernel
theorem dX0_fill_36 : decode cX0_fill 36 = .ok (.goto (-34), 3) := by decide +kernel
theorem dX0_fill_39 : decode cX0_fill 39 = .ok (.return_, 1) := by decide +kernel
def b_X0_fill_2 (x1 : Int32) (rec : Int32 → Mem → Int32 × Mem) (v2 : Int32) (N : Mem) : Int32 × Mem :=
  if 2 ≤ v2 then (v2, N)
  else if (f_X4_isPlaceNumber x1) then if (f_X0_hasOnline (f_X4_mirrorOf x1) v2 N) then zlet (f_X0_mark x1 v2 false N) (fun N1 =>
      rec (v2 + 1) N1)
    else rec (v2 + 1) N
  else rec (v2 + 1) N
def l_X0_fill_2 (x1 : Int32) : Nat → Int32 → Mem → Int32 × Mem
  | 0, v2, N => (v2, N)
  | n + 1, v2, N => b_X0_fill_2 x1 (l_X0_fill_2 x1 n) v2 N
set_option maxRecDepth 100000 in
set_option maxHeartbeats 4000000 in
theorem kl_X0_fill_2 (q : ZQ) (x1 : Int32) {K : Int32 × Mem → ZR} (hx : ∀ e : Int32 × Mem, Zg (zgX q) mX0_fill 0 0 0 0 (K e) 39 [some (.inr 1), some (.inl x1), some (.inl e.1)] [] e.2) :
    ∀ (n : Nat) (v2 : Int32) (N : Mem), ((2 : Int32).toInt - (v2 : Int32).toInt).toNat < n → Zg (zgX q) mX0_fill 0 0 0 0 (zlet (l_X0_fill_2 x1 n v2 N) K) 2 [some (.inr 1), some (.inl x1), some (.inl v2)] [] N := by
  intro n
  induction n with
  | zero => intro v2 N hm; exact absurd hm (Nat.not_lt_zero _)
  | succ n ih =>
    intro v2 N hm
    show Zg _ _ _ _ _ _ (zlet (b_X0_fill_2 x1 (l_X0_fill_2 x1 n) v2 N) K) _ _ _ _
    unfold b_X0_fill_2
    refine zg_iload_n (x := v2) dX0_fill_2 rfl ?_
    refine zg_iconst (v := 2) dX0_fill_3 rfl ?_
    refine zg_icmpz (tgt := 39) dX0_fill_4 rfl rfl (fun c4 => ?_) (fun c4 => ?_)
    · refine zg_st (pc' := 39) (L' := [some (.inr 1), some (.inl x1), some (.inl v2)]) (S' := []) (M' := N) rfl rfl rfl rfl ?_
      refine zg_drop (L' := [some (.inr 1), some (.inl x1), some (.inl v2)]) ⟨rfl, rfl, rfl, trivial⟩ ?_
      exact hx (v2, N)
    · refine zg_st (pc' := 7) (L' := [some (.inr 1), some (.inl x1), some (.inl v2)]) (S' := []) (M' := N) rfl rfl rfl rfl ?_
      refine zg_iload_n (x := x1) dX0_fill_7 rfl ?_
      refine zg_cN1 (As := [.inl x1]) (S := []) (v := bI ((f_X4_isPlaceNumber x1))) dX0_fill_8 zk_X0_29 (k_X4_isPlaceNumber q x1 N) rfl ⟨by decide, by decide⟩ ⟨by decide, by decide⟩ rfl (Nat.le_of_ble_eq_true rfl) ?_
      refine zg_st (pc' := 11) (L' := [some (.inr 1), some (.inl x1), some (.inl v2)]) (S' := [.inl (bI ((f_X4_isPlaceNumber x1)))]) (M' := N) rfl rfl rfl rfl ?_
      refine zg_ifbe (tgt := 33) dX0_fill_11 rfl (fun c11 => ?_) (fun c11 => ?_)
      · refine zg_st (pc' := 14) (L' := [some (.inr 1), some (.inl x1), some (.inl v2)]) (S' := []) (M' := N) rfl rfl rfl rfl ?_
        refine zg_aload_n (x := 1) dX0_fill_14 rfl ?_
        refine zg_iload_n (x := x1) dX0_fill_15 rfl ?_
        refine zg_cN1 (As := [.inl x1]) (S := [.inr 1]) (v := (f_X4_mirrorOf x1)) dX0_fill_16 zk_X0_43 (k_X4_mirrorOf q x1 N) rfl ⟨by decide, by decide⟩ ⟨by decide, by decide⟩ rfl (Nat.le_of_ble_eq_true rfl) ?_
        refine zg_st (pc' := 19) (L' := [some (.inr 1), some (.inl x1), some (.inl v2)]) (S' := [.inl (f_X4_mirrorOf x1), .inr 1]) (M' := N) rfl rfl rfl rfl ?_
        refine zg_iload_n (x := v2) dX0_fill_19 rfl ?_
        refine zg_cV1 (As := [.inl (f_X4_mirrorOf x1), .inl v2]) (S := []) (v := bI ((f_X0_hasOnline (f_X4_mirrorOf x1) v2 N))) dX0_fill_20 zk_X0_50 (k_X0_hasOnline q (f_X4_mirrorOf x1) v2 N) rfl rfl ⟨by decide, by decide⟩ ⟨by decide, by decide⟩ rfl (Nat.le_of_ble_eq_true rfl) ?_
        refine zg_st (pc' := 23) (L' := [some (.inr 1), some (.inl x1), some (.inl v2)]) (S' := [.inl (bI ((f_X0_hasOnline (f_X4_mirrorOf x1) v2 N)))]) (M' := N) rfl rfl rfl rfl ?_
        refine zg_ifbe (tgt := 33) dX0_fill_23 rfl (fun c23 => ?_) (fun c23 => ?_)
        · refine zg_st (pc' := 26) (L' := [some (.inr 1), some (.inl x1), some (.inl v2)]) (S' := []) (M' := N) rfl rfl rfl rfl ?_
          refine zg_aload_n (x := 1) dX0_fill_26 rfl ?_
          refine zg_iload_n (x := x1) dX0_fill_27 rfl ?_
          refine zg_iload_n (x := v2) dX0_fill_28 rfl ?_
          refine zg_iconst (v := 0) dX0_fill_29 rfl ?_
          refine zg_cVV (As := [.inl x1, .inl v2, .inl 0]) (S := []) dX0_fill_30 zk_X0_53 (k_X0_mark q x1 v2 false N) rfl rfl ⟨by decide, by decide⟩ ⟨by decide, by decide⟩ rfl (Nat.le_of_ble_eq_true rfl) (fun N1 e_N1 => ?_)
          try dsimp only
          refine zg_st (pc' := 33) (L' := [some (.inr 1), some (.inl x1), some (.inl v2)]) (S' := []) (M' := N1) rfl rfl rfl rfl ?_
          refine zg_iinc (v := (v2 + 1)) dX0_fill_33 rfl (by decide) rfl ?_
          refine zg_st (pc' := 36) (L' := [some (.inr 1), some (.inl x1), some (.inl (v2 + 1))]) (S' := []) (M' := N1) rfl rfl rfl rfl ?_
          refine zg_goto (tgt := 2) dX0_fill_36 rfl ?_
          refine zg_st (pc' := 2) (L' := [some (.inr 1), some (.inl x1), some (.inl (v2 + 1))]) (S' := []) (M' := N1) rfl rfl rfl rfl ?_
          refine zg_drop (L' := [some (.inr 1), some (.inl x1), some (.inl (v2 + 1))]) ⟨rfl, rfl, rfl, trivial⟩ ?_
          exact ih (v2 + 1) N1 (z_up c4 hm)
        · refine zg_st (pc' := 33) (L' := [some (.inr 1), some (.inl x1), some (.inl v2)]) (S' := []) (M' := N) rfl rfl rfl rfl ?_
          refine zg_iinc (v := (v2 + 1)) dX0_fill_33 rfl (by decide) rfl ?_
          refine zg_st (pc' := 36) (L' := [some (.inr 1), some (.inl x1), some (.inl (v2 + 1))]) (S' := []) (M' := N) rfl rfl rfl rfl ?_
          refine zg_goto (tgt := 2) dX0_fill_36 rfl ?_
          refine zg_st (pc' := 2) (L' := [some (.inr 1), some (.inl x1), some (.inl (v2 + 1))]) (S' := []) (M' := N) rfl rfl rfl rfl ?_
          refine zg_drop (L' := [some (.inr 1), some (.inl x1), some (.inl (v2 + 1))]) ⟨rfl, rfl, rfl, trivial⟩ ?_
          exact ih (v2 + 1) N (z_up c4 hm)
      · refine zg_st (pc' := 33) (L' := [some (.inr 1), some (.inl x1), some (.inl v2)]) (S' := []) (M' := N) rfl rfl rfl rfl ?_
        refine zg_iinc (v := (v2 + 1)) dX0_fill_33 rfl (by decide) rfl ?_
        refine zg_st (pc' := 36) (L' := [some (.inr 1), some (.inl x1), some (.inl (v2 + 1))]) (S' := []) (M' := N) rfl rfl rfl rfl ?_
        refine zg_goto (tgt := 2) dX0_fill_36 rfl ?_
        refine zg_st (pc' := 2) (L' := [some (.inr 1), some (.inl x1), some (.inl (v2 + 1))]) (S' := []) (M' := N) rfl rfl rfl rfl ?_
        refine zg_drop (L' := [some (.inr 1), some (.inl x1), some (.inl (v2 + 1))]) ⟨rfl, rfl, rfl, trivial⟩ ?_
        exact ih (v2 + 1) N (z_up c4 hm)
def f_X0_fill (p1 : Int32) (M : Mem) : Mem :=
  zlet (l_X0_fill_2 p1 3 0 M) (fun s2 =>
  s2.2)
set_option maxRecDepth 100000 in
set_option maxHeartbeats 4000000 in
theorem k_X0_fill (q : ZQ) (p1 : Int32) (M : Mem) : Zc (zgX q) mX0_fill 0 0 [.inr 1, .inl p1] M (wV (f_X0_fill p1 M)) := by
  refine Zc.of (by decide) zi_X0_fill.1 (Nat.le_of_ble_eq_true rfl) rfl ?_
  show Zg _ _ _ _ _ _ (zlet (f_X0_fill p1 M) wV) _ _ _ _
  unfold f_X0_fill
  refine zg_iconst (v := 0) dX0_fill_0 rfl ?_
  refine zg_istore_n dX0_fill_1 (by decide) ?_
  refine zg_st (pc' := 2) (L' := [some (.inr 1), some (.inl p1), some (.inl 0)]) (S' := []) (M' := M) rfl rfl rfl rfl ?_
  refine zg_asc ?_
  refine zg_drop (L' := [some (.inr 1), some (.inl p1), some (.inl 0)]) ⟨rfl, rfl, rfl, trivial⟩ ?_
  refine kl_X0_fill_2 q p1  (fun s2 => ?_) 3 0 M (by decide)
  try dsimp only [Sum.elim_inr]
  refine zg_st (pc' := 39) (L' := [some (.inr 1), some (.inl p1), some (.inl s2.1)]) (S' := []) (M' := s2.2) rfl rfl rfl rfl ?_
  exact zg_vret dX0_fill_39 rfl ⟨by decide, by decide⟩ rfl
theorem dX3_drop_0 : decode cX3_drop 0 = .ok (.aload_n 0, 1) := by decide +kernel
theorem dX3_drop_1 : decode cX3_drop 1 = .ok (.iload_n 1, 1) := by decide +kernel
theorem dX3_drop_2 : decode cX3_drop 2 = .ok (.iconst (-1), 1) := by decide +kernel
theorem dX3_drop_3 : decode cX3_drop 3 = .ok (.iconst (-1), 1) := by decide +kernel
theorem dX3_drop_4 : decode cX3_drop 4 = .ok (.invokevirtual 55, 3) := by decide +kernel
theorem dX3_drop_7 : decode cX3_drop 7 = .ok (.aload_n 0, 1) := by decide +kernel
theorem dX3_drop_8 : decode cX3_drop 8 = .ok (.iload_n 1, 1) := by decide +kernel
theorem dX3_drop_9 : decode cX3_drop 9 = .ok (.iconst 0, 1) := by decide +kernel
theorem dX3_drop_10 : decode cX3_drop 10 = .ok (.iconst 0, 1) := by decide +kernel
theorem dX3_drop_11 : decode cX3_drop 11 = .ok (.invokevirtual 59, 3) := by decide +kernel
theorem dX3_drop_14 : decode cX3_drop 14 = .ok (.return_, 1) := by decide +kernel
def f_X3_drop (p1 : Int32) (M : Mem) : Mem :=
  zlet (f_X3_point p1 (-1) (-1) M) (fun N1 =>
  zlet (f_X3_sign p1 0 0 N1) (fun N2 =>
    N2))
set_option maxRecDepth 100000 in
set_option maxHeartbeats 4000000 in
theorem k_X3_drop (q : ZQ) (p1 : Int32) (M : Mem) : Zc (zgX q) mX3_drop 0 0 [.inr 2, .inl p1] M (wV (f_X3_drop p1 M)) := by
  refine Zc.of (by decide) zi_X3_drop.1 (Nat.le_of_ble_eq_true rfl) rfl ?_
  show Zg _ _ _ _ _ _ (zlet (f_X3_drop p1 M) wV) _ _ _ _
  unfold f_X3_drop
  refine zg_aload_n (x := 2) dX3_drop_0 rfl ?_
  refine zg_iload_n (x := p1) dX3_drop_1 rfl ?_
  refine zg_iconst (v := (-1)) dX3_drop_2 rfl ?_
  refine zg_iconst (v := (-1)) dX3_drop_3 rfl ?_
  refine zg_cVV (As := [.inl p1, .inl (-1), .inl (-1)]) (S := []) dX3_drop_4 zk_X3_55 (k_X3_point q p1 (-1) (-1) M) rfl rfl ⟨by decide, by decide⟩ ⟨by decide, by decide⟩ rfl (Nat.le_of_ble_eq_true rfl) (fun N1 e_N1 => ?_)
  try dsimp only
  refine zg_st (pc' := 7) (L' := [some (.inr 2), some (.inl p1)]) (S' := []) (M' := N1) rfl rfl rfl rfl ?_
  refine zg_aload_n (x := 2) dX3_drop_7 rfl ?_
  refine zg_iload_n (x := p1) dX3_drop_8 rfl ?_
  refine zg_iconst (v := 0) dX3_drop_9 rfl ?_
  refine zg_iconst (v := 0) dX3_drop_10 rfl ?_
  refine zg_cVV (As := [.inl p1, .inl 0, .inl 0]) (S := []) dX3_drop_11 zk_X3_59 (k_X3_sign q p1 0 0 N1) rfl rfl ⟨by decide, by decide⟩ ⟨by decide, by decide⟩ rfl (Nat.le_of_ble_eq_true rfl) (fun N2 e_N2 => ?_)
  try dsimp only
  refine zg_st (pc' := 14) (L' := [some (.inr 2), some (.inl p1)]) (S' := []) (M' := N2) rfl rfl rfl rfl ?_
  exact zg_vret dX3_drop_14 rfl ⟨by decide, by decide⟩ rfl
theorem dX3_checksumOf_0 : decode cX3_checksumOf 0 = .ok (.iload_n 1, 1) := by decide +kernel
theorem dX3_checksumOf_1 : decode cX3_checksumOf 1 = .ok (.invokestatic 41, 3) := by decide +kernel
theorem dX3_checksumOf_4 : decode cX3_checksumOf 4 = .ok (.ifCond .eq 12, 3) := by decide +kernel
theorem dX3_checksumOf_7 : decode cX3_checksumOf 7 = .ok (.aload_n 0, 1) := by decide +kernel
theorem dX3_checksumOf_8 : decode cX3_checksumOf 8 = .ok (.getfield 27, 3) := by decide +kernel
theorem dX3_checksumOf_11 : decode cX3_checksumOf 11 = .ok (.iload_n 1, 1) := by decide +kernel
theorem dX3_checksumOf_12 : decode cX3_checksumOf 12 = .ok (.iaload, 1) := by decide +kernel
theorem dX3_checksumOf_13 : decode cX3_checksumOf 13 = .ok (.goto 4, 3) := by decide +kernel
theorem dX3_checksumOf_16 : decode cX3_checksumOf 16 = .ok (.iconst 0, 1) := by decide +kernel
theorem dX3_checksumOf_17 : decode cX3_checksumOf 17 = .ok (.ireturn, 1) := by decide +kernel
def f_X3_checksumOf (p1 : Int32) (M : Mem) : Int32 :=
  if (f_X4_isPointer p1) then (M 13 p1.toNatClampNeg)
  else 0
set_option maxRecDepth 100000 in
set_option maxHeartbeats 4000000 in
theorem k_X3_checksumOf (q : ZQ) (p1 : Int32) (M : Mem) : Zc (zgX q) mX3_checksumOf 0 0 [.inr 2, .inl p1] M (wI M (f_X3_checksumOf p1 M)) := by
  refine Zc.of (by decide) zi_X3_checksumOf.1 (Nat.le_of_ble_eq_true rfl) rfl ?_
  show Zg _ _ _ _ _ _ (zlet (f_X3_checksumOf p1 M) (wI M)) _ _ _ _
  unfold f_X3_checksumOf
  refine zg_iload_n (x := p1) dX3_checksumOf_0 rfl ?_
  refine zg_cN1 (As := [.inl p1]) (S := []) (v := bI ((f_X4_isPointer p1))) dX3_checksumOf_1 zk_X3_41 (k_X4_isPointer q p1 M) rfl ⟨by decide, by decide⟩ ⟨by decide, by decide⟩ rfl (Nat.le_of_ble_eq_true rfl) ?_
  refine zg_st (pc' := 4) (L' := [some (.inr 2), some (.inl p1)]) (S' := [.inl (bI ((f_X4_isPointer p1)))]) (M' := M) rfl rfl rfl rfl ?_
  refine zg_ifbe (tgt := 16) dX3_checksumOf_4 rfl (fun c4 => ?_) (fun c4 => ?_)
  · refine zg_st (pc' := 7) (L' := [some (.inr 2), some (.inl p1)]) (S' := []) (M' := M) rfl rfl rfl rfl ?_
    refine zg_aload_n (x := 2) dX3_checksumOf_7 rfl ?_
    refine zg_getf (v := .inr 13) dX3_checksumOf_8 zf_X3_27 rfl rfl rfl ?_
    refine zg_iload_n (x := p1) dX3_checksumOf_11 rfl ?_
    refine zg_iald dX3_checksumOf_12 rfl (by simp only [q_isFile, q_isBlock, q_isBlockOfFile, q_isMirror, q_isSideOfMirror, q_isCell, q_isPlaceNumber, q_isCellOnSide, q_isPointer, q_isBlockPointer, vp_in_iff, Int32.lt_iff_toInt_lt, Int32.le_iff_toInt_le, Int32.reduceToInt] at c4 ⊢; omega) ?_
    refine zg_goto (tgt := 17) dX3_checksumOf_13 rfl ?_
    refine zg_st (pc' := 17) (L' := [some (.inr 2), some (.inl p1)]) (S' := [.inl (M 13 p1.toNatClampNeg)]) (M' := M) rfl rfl rfl rfl ?_
    exact zg_iret dX3_checksumOf_17 rfl rfl ⟨by decide, by decide⟩ rfl
  · refine zg_st (pc' := 16) (L' := [some (.inr 2), some (.inl p1)]) (S' := []) (M' := M) rfl rfl rfl rfl ?_
    refine zg_iconst (v := 0) dX3_checksumOf_16 rfl ?_
    exact zg_iret dX3_checksumOf_17 rfl rfl ⟨by decide, by decide⟩ rfl
theorem dX3_birthOf_0 : decode cX3_birthOf 0 = .ok (.iload_n 1, 1) := by decide +kernel
theorem dX3_birthOf_1 : decode cX3_birthOf 1 = .ok (.invokestatic 41, 3) := by decide +kernel
theorem dX3_birthOf_4 : decode cX3_birthOf 4 = .ok (.ifCond .eq 12, 3) := by decide +kernel
theorem dX3_birthOf_7 : decode cX3_birthOf 7 = .ok (.aload_n 0, 1) := by decide +kernel
theorem dX3_birthOf_8 : decode cX3_birthOf 8 = .ok (.getfield 30, 3) := by decide +kernel
theorem dX3_birthOf_11 : decode cX3_birthOf 11 = .ok (.iload_n 1, 1) := by decide +kernel
theorem dX3_birthOf_12 : decode cX3_birthOf 12 = .ok (.iaload, 1) := by decide +kernel
theorem dX3_birthOf_13 : decode cX3_birthOf 13 = .ok (.goto 4, 3) := by decide +kernel
theorem dX3_birthOf_16 : decode cX3_birthOf 16 = .ok (.iconst 0, 1) := by decide +kernel
theorem dX3_birthOf_17 : decode cX3_birthOf 17 = .ok (.ireturn, 1) := by decide +kernel
def f_X3_birthOf (p1 : Int32) (M : Mem) : Int32 :=
  if (f_X4_isPointer p1) then (M 14 p1.toNatClampNeg)
  else 0
set_option maxRecDepth 100000 in
set_option maxHeartbeats 4000000 in
theorem k_X3_birthOf (q : ZQ) (p1 : Int32) (M : Mem) : Zc (zgX q) mX3_birthOf 0 0 [.inr 2, .inl p1] M (wI M (f_X3_birthOf p1 M)) := by
  refine Zc.of (by decide) zi_X3_birthOf.1 (Nat.le_of_ble_eq_true rfl) rfl ?_
  show Zg _ _ _ _ _ _ (zlet (f_X3_birthOf p1 M) (wI M)) _ _ _ _
  unfold f_X3_birthOf
  refine zg_iload_n (x := p1) dX3_birthOf_0 rfl ?_
  refine zg_cN1 (As := [.inl p1]) (S := []) (v := bI ((f_X4_isPointer p1))) dX3_birthOf_1 zk_X3_41 (k_X4_isPointer q p1 M) rfl ⟨by decide, by decide⟩ ⟨by decide, by decide⟩ rfl (Nat.le_of_ble_eq_true rfl) ?_
  refine zg_st (pc' := 4) (L' := [some (.inr 2), some (.inl p1)]) (S' := [.inl (bI ((f_X4_isPointer p1)))]) (M' := M) rfl rfl rfl rfl ?_
  refine zg_ifbe (tgt := 16) dX3_birthOf_4 rfl (fun c4 => ?_) (fun c4 => ?_)
  · refine zg_st (pc' := 7) (L' := [some (.inr 2), some (.inl p1)]) (S' := []) (M' := M) rfl rfl rfl rfl ?_
    refine zg_aload_n (x := 2) dX3_birthOf_7 rfl ?_
    refine zg_getf (v := .inr 14) dX3_birthOf_8 zf_X3_30 rfl rfl rfl ?_
    refine zg_iload_n (x := p1) dX3_birthOf_11 rfl ?_
    refine zg_iald dX3_birthOf_12 rfl (by simp only [q_isFile, q_isBlock, q_isBlockOfFile, q_isMirror, q_isSideOfMirror, q_isCell, q_isPlaceNumber, q_isCellOnSide, q_isPointer, q_isBlockPointer, vp_in_iff, Int32.lt_iff_toInt_lt, Int32.le_iff_toInt_le, Int32.reduceToInt] at c4 ⊢; omega) ?_
    refine zg_goto (tgt := 17) dX3_birthOf_13 rfl ?_
    refine zg_st (pc' := 17) (L' := [some (.inr 2), some (.inl p1)]) (S' := [.inl (M 14 p1.toNatClampNeg)]) (M' := M) rfl rfl rfl rfl ?_
    exact zg_iret dX3_birthOf_17 rfl rfl ⟨by decide, by decide⟩ rfl
  · refine zg_st (pc' := 16) (L' := [some (.inr 2), some (.inl p1)]) (S' := []) (M' := M) rfl rfl rfl rfl ?_
    refine zg_iconst (v := 0) dX3_birthOf_16 rfl ?_
    exact zg_iret dX3_birthOf_17 rfl rfl ⟨by decide, by decide⟩ rfl
theorem dX3_checksumOfNode_0 : decode cX3_checksumOfNode 0 = .ok (.iconst 1, 1) := by decide +kernel
theorem dX3_checksumOfNode_1 : decode cX3_checksumOfNode 1 = .ok (.istore_n 3, 1) := by decide +kernel
theorem dX3_checksumOfNode_2 : decode cX3_checksumOfNode 2 = .ok (.iconst 0, 1) := by decide +kernel
theorem dX3_checksumOfNode_3 : decode cX3_checksumOfNode 3 = .ok (.istore 4, 2) := by decide +kernel
theorem dX3_checksumOfNode_5 : decode cX3_checksumOfNode 5 = .ok (.iload 4, 2) := by decide +kernel
theorem dX3_checksumOfNode_7 : decode cX3_checksumOfNode 7 = .ok (.iload_n 2, 1) := by decide +kernel
theorem dX3_checksumOfNode_8 : decode cX3_checksumOfNode 8 = .ok (.if_icmp .ge 38, 3) := by decide +kernel
theorem dX3_checksumOfNode_11 : decode cX3_checksumOfNode 11 = .ok (.iload_n 1, 1) := by decide +kernel
theorem dX3_checksumOfNode_12 : decode cX3_checksumOfNode 12 = .ok (.iload 4, 2) := by decide +kernel
theorem dX3_checksumOfNode_14 : decode cX3_checksumOfNode 14 = .ok (.iadd, 1) := by decide +kernel
theorem dX3_checksumOfNode_15 : decode cX3_checksumOfNode 15 = .ok (.istore 5, 2) := by decide +kernel
theorem dX3_checksumOfNode_17 : decode cX3_checksumOfNode 17 = .ok (.iload_n 3, 1) := by decide +kernel
theorem dX3_checksumOfNode_18 : decode cX3_checksumOfNode 18 = .ok (.sipush 131, 3) := by decide +kernel
theorem dX3_checksumOfNode_21 : decode cX3_checksumOfNode 21 = .ok (.imul, 1) := by decide +kernel
theorem dX3_checksumOfNode_22 : decode cX3_checksumOfNode 22 = .ok (.aload_n 0, 1) := by decide +kernel
theorem dX3_checksumOfNode_23 : decode cX3_checksumOfNode 23 = .ok (.iload 5, 2) := by decide +kernel
theorem dX3_checksumOfNode_25 : decode cX3_checksumOfNode 25 = .ok (.invokevirtual 47, 3) := by decide +kernel
theorem dX3_checksumOfNode_28 : decode cX3_checksumOfNode 28 = .ok (.iadd, 1) := by decide +kernel
theorem dX3_checksumOfNode_29 : decode cX3_checksumOfNode 29 = .ok (.aload_n 0, 1) := by decide +kernel
theorem dX3_checksumOfNode_30 : decode cX3_checksumOfNode 30 = .ok (.iload 5, 2) := by decide +kernel
theorem dX3_checksumOfNode_32 : decode cX3_checksumOfNode 32 = .ok (.invokevirtual 51, 3) := by decide +kernel
theorem dX3_checksumOfNode_35 : decode cX3_checksumOfNode 35 = .ok (.iadd, 1) := by decide +kernel
theorem dX3_checksumOfNode_36 : decode cX3_checksumOfNode 36 = .ok (.ldc 54, 2) := by decide +kernel
theorem dX3_checksumOfNode_38 : decode cX3_checksumOfNode 38 = .ok (.irem, 1) := by decide +kernel
theorem dX3_checksumOfNode_39 : decode cX3_checksumOfNode 39 = .ok (.istore_n 3, 1) := by decide +kernel
theorem dX3_checksumOfNode_40 : decode cX3_checksumOfNode 40 = .ok (.iinc 4 1, 3) := by decide +kernel
theorem dX3_checksumOfNode_43 : decode cX3_checksumOfNode 43 = .ok (.goto (-38), 3) := by decide +kernel
theorem dX3_checksumOfNode_46 : decode cX3_checksumOfNode 46 = .ok (.iload_n 3, 1) := by decide +kernel
theorem dX3_checksumOfNode_47 : decode cX3_checksumOfNode 47 = .ok (.ireturn, 1) := by decide +kernel
def b_X3_checksumOfNode_5 (x1 : Int32) (x2 : Int32) (M : Mem) (rec : Int32 → Int32 → Int32 × Int32) (v3 : Int32) (v4 : Int32) : Int32 × Int32 :=
  if x2 ≤ v4 then (v3, v4)
  else rec ((((v3 * 131) + (f_X3_checksumOf (x1 + v4) M)) + (f_X3_birthOf (x1 + v4) M)) - (((v3 * 131) + (f_X3_checksumOf (x1 + v4) M)) + (f_X3_birthOf (x1 + v4) M)) / 65521 * 65521) (v4 + 1)
def l_X3_checksumOfNode_5 (x1 : Int32) (x2 : Int32) (M : Mem) : Nat → Int32 → Int32 → Int32 × Int32
  | 0, v3, v4 => (v3, v4)
  | n + 1, v3, v4 => b_X3_checksumOfNode_5 x1 x2 M (l_X3_checksumOfNode_5 x1 x2 M n) v3 v4
set_option maxRecDepth 100000 in
set_option maxHeartbeats 4000000 in
theorem kl_X3_checksumOfNode_5 (q : ZQ) (x1 : Int32) (x2 : Int32) (M : Mem) {K : Int32 × Int32 → ZR} (hx : ∀ e : Int32 × Int32, Zg (zgX q) mX3_checksumOfNode 0 0 0 0 (K e) 46 [some (.inr 2), some (.inl x1), some (.inl x2), some (.inl e.1), some (.inl e.2), none] [] M) :
    ∀ (n : Nat) (v3 : Int32) (v4 : Int32), ((x2 : Int32).toInt - (v4 : Int32).toInt).toNat < n → Zg (zgX q) mX3_checksumOfNode 0 0 0 0 (zlet (l_X3_checksumOfNode_5 x1 x2 M n v3 v4) K) 5 [some (.inr 2), some (.inl x1), some (.inl x2), some (.inl v3), some (.inl v4), none] [] M := by
  intro n
  induction n with
  | zero => intro v3 v4 hm; exact absurd hm (Nat.not_lt_zero _)
  | succ n ih =>
    intro v3 v4 hm
    show Zg _ _ _ _ _ _ (zlet (b_X3_checksumOfNode_5 x1 x2 M (l_X3_checksumOfNode_5 x1 x2 M n) v3 v4) K) _ _ _ _
    unfold b_X3_checksumOfNode_5
    refine zg_iload (x := v4) dX3_checksumOfNode_5 rfl ?_
    refine zg_iload_n (x := x2) dX3_checksumOfNode_7 rfl ?_
    refine zg_icmpz (tgt := 46) dX3_checksumOfNode_8 rfl rfl (fun c8 => ?_) (fun c8 => ?_)
    · refine zg_st (pc' := 46) (L' := [some (.inr 2), some (.inl x1), some (.inl x2), some (.inl v3), some (.inl v4), none]) (S' := []) (M' := M) rfl rfl rfl rfl ?_
      refine zg_drop (L' := [some (.inr 2), some (.inl x1), some (.inl x2), some (.inl v3), some (.inl v4), none]) ⟨rfl, rfl, rfl, rfl, rfl, trivial⟩ ?_
      exact hx (v3, v4)
    · refine zg_st (pc' := 11) (L' := [some (.inr 2), some (.inl x1), some (.inl x2), some (.inl v3), some (.inl v4), none]) (S' := []) (M' := M) rfl rfl rfl rfl ?_
      refine zg_iload_n (x := x1) dX3_checksumOfNode_11 rfl ?_
      refine zg_iload (x := v4) dX3_checksumOfNode_12 rfl ?_
      refine zg_iadd dX3_checksumOfNode_14 ?_
      refine zg_istore dX3_checksumOfNode_15 (by decide) ?_
      refine zg_st (pc' := 17) (L' := [some (.inr 2), some (.inl x1), some (.inl x2), some (.inl v3), some (.inl v4), some (.inl (x1 + v4))]) (S' := []) (M' := M) rfl rfl rfl rfl ?_
      refine zg_iload_n (x := v3) dX3_checksumOfNode_17 rfl ?_
      refine zg_sipush (v := 131) dX3_checksumOfNode_18 rfl ?_
      refine zg_imul dX3_checksumOfNode_21 ?_
      refine zg_aload_n (x := 2) dX3_checksumOfNode_22 rfl ?_
      refine zg_iload (x := (x1 + v4)) dX3_checksumOfNode_23 rfl ?_
      refine zg_cV1 (As := [.inl (x1 + v4)]) (S := [.inl (v3 * 131)]) (v := (f_X3_checksumOf (x1 + v4) M)) dX3_checksumOfNode_25 zk_X3_47 (k_X3_checksumOf q (x1 + v4) M) rfl rfl ⟨by decide, by decide⟩ ⟨by decide, by decide⟩ rfl (Nat.le_of_ble_eq_true rfl) ?_
      refine zg_st (pc' := 28) (L' := [some (.inr 2), some (.inl x1), some (.inl x2), some (.inl v3), some (.inl v4), some (.inl (x1 + v4))]) (S' := [.inl (f_X3_checksumOf (x1 + v4) M), .inl (v3 * 131)]) (M' := M) rfl rfl rfl rfl ?_
      refine zg_iadd dX3_checksumOfNode_28 ?_
      refine zg_aload_n (x := 2) dX3_checksumOfNode_29 rfl ?_
      refine zg_iload (x := (x1 + v4)) dX3_checksumOfNode_30 rfl ?_
      refine zg_cV1 (As := [.inl (x1 + v4)]) (S := [.inl ((v3 * 131) + (f_X3_checksumOf (x1 + v4) M))]) (v := (f_X3_birthOf (x1 + v4) M)) dX3_checksumOfNode_32 zk_X3_51 (k_X3_birthOf q (x1 + v4) M) rfl rfl ⟨by decide, by decide⟩ ⟨by decide, by decide⟩ rfl (Nat.le_of_ble_eq_true rfl) ?_
      refine zg_st (pc' := 35) (L' := [some (.inr 2), some (.inl x1), some (.inl x2), some (.inl v3), some (.inl v4), some (.inl (x1 + v4))]) (S' := [.inl (f_X3_birthOf (x1 + v4) M), .inl ((v3 * 131) + (f_X3_checksumOf (x1 + v4) M))]) (M' := M) rfl rfl rfl rfl ?_
      refine zg_iadd dX3_checksumOfNode_35 ?_
      refine zg_ldc (v := 65521) dX3_checksumOfNode_36 (zm3 180 (by decide +kernel) rfl) ?_
      refine zg_irem dX3_checksumOfNode_38 (by decide) ?_
      refine zg_istore_n dX3_checksumOfNode_39 (by decide) ?_
      refine zg_st (pc' := 40) (L' := [some (.inr 2), some (.inl x1), some (.inl x2), some (.inl ((((v3 * 131) + (f_X3_checksumOf (x1 + v4) M)) + (f_X3_birthOf (x1 + v4) M)) - (((v3 * 131) + (f_X3_checksumOf (x1 + v4) M)) + (f_X3_birthOf (x1 + v4) M)) / 65521 * 65521)), some (.inl v4), some (.inl (x1 + v4))]) (S' := []) (M' := M) rfl rfl rfl rfl ?_
      refine zg_iinc (v := (v4 + 1)) dX3_checksumOfNode_40 rfl (by decide) rfl ?_
      refine zg_st (pc' := 43) (L' := [some (.inr 2), some (.inl x1), some (.inl x2), some (.inl ((((v3 * 131) + (f_X3_checksumOf (x1 + v4) M)) + (f_X3_birthOf (x1 + v4) M)) - (((v3 * 131) + (f_X3_checksumOf (x1 + v4) M)) + (f_X3_birthOf (x1 + v4) M)) / 65521 * 65521)), some (.inl (v4 + 1)), some (.inl (x1 + v4))]) (S' := []) (M' := M) rfl rfl rfl rfl ?_
      refine zg_goto (tgt := 5) dX3_checksumOfNode_43 rfl ?_
      refine zg_st (pc' := 5) (L' := [some (.inr 2), some (.inl x1), some (.inl x2), some (.inl ((((v3 * 131) + (f_X3_checksumOf (x1 + v4) M)) + (f_X3_birthOf (x1 + v4) M)) - (((v3 * 131) + (f_X3_checksumOf (x1 + v4) M)) + (f_X3_birthOf (x1 + v4) M)) / 65521 * 65521)), some (.inl (v4 + 1)), some (.inl (x1 + v4))]) (S' := []) (M' := M) rfl rfl rfl rfl ?_
      refine zg_drop (L' := [some (.inr 2), some (.inl x1), some (.inl x2), some (.inl ((((v3 * 131) + (f_X3_checksumOf (x1 + v4) M)) + (f_X3_birthOf (x1 + v4) M)) - (((v3 * 131) + (f_X3_checksumOf (x1 + v4) M)) + (f_X3_birthOf (x1 + v4) M)) / 65521 * 65521)), some (.inl (v4 + 1)), none]) ⟨rfl, rfl, rfl, rfl, rfl, trivial⟩ ?_
      exact ih ((((v3 * 131) + (f_X3_checksumOf (x1 + v4) M)) + (f_X3_birthOf (x1 + v4) M)) - (((v3 * 131) + (f_X3_checksumOf (x1 + v4) M)) + (f_X3_birthOf (x1 + v4) M)) / 65521 * 65521) (v4 + 1) (z_up c8 hm)
def f_X3_checksumOfNode (p1 : Int32) (p2 : Int32) (M : Mem) : Int32 :=
  zlet (l_X3_checksumOfNode_5 p1 p2 M (((p2 : Int32).toInt - (0 : Int32).toInt).toNat + 1) 1 0) (fun s1 =>
  s1.1)
set_option maxRecDepth 100000 in
set_option maxHeartbeats 4000000 in
theorem k_X3_checksumOfNode (q : ZQ) (p1 : Int32) (p2 : Int32) (M : Mem) : Zc (zgX q) mX3_checksumOfNode 0 0 [.inr 2, .inl p1, .inl p2] M (wI M (f_X3_checksumOfNode p1 p2 M)) := by
  refine Zc.of (by decide) zi_X3_checksumOfNode.1 (Nat.le_of_ble_eq_true rfl) rfl ?_
  show Zg _ _ _ _ _ _ (zlet (f_X3_checksumOfNode p1 p2 M) (wI M)) _ _ _ _
  unfold f_X3_checksumOfNode
  refine zg_iconst (v := 1) dX3_checksumOfNode_0 rfl ?_
  refine zg_istore_n dX3_checksumOfNode_1 (by decide) ?_
  refine zg_st (pc' := 2) (L' := [some (.inr 2), some (.inl p1), some (.inl p2), some (.inl 1), none, none]) (S' := []) (M' := M) rfl rfl rfl rfl ?_
  refine zg_iconst (v := 0) dX3_checksumOfNode_2 rfl ?_
  refine zg_istore dX3_checksumOfNode_3 (by decide) ?_
  refine zg_st (pc' := 5) (L' := [some (.inr 2), some (.inl p1), some (.inl p2), some (.inl 1), some (.inl 0), none]) (S' := []) (M' := M) rfl rfl rfl rfl ?_
  refine zg_asc ?_
  refine zg_drop (L' := [some (.inr 2), some (.inl p1), some (.inl p2), some (.inl 1), some (.inl 0), none]) ⟨rfl, rfl, rfl, rfl, rfl, trivial⟩ ?_
  refine kl_X3_checksumOfNode_5 q p1 p2 M (fun s1 => ?_) (((p2 : Int32).toInt - (0 : Int32).toInt).toNat + 1) 1 0 (Nat.lt_succ_self _)
  try dsimp only [Sum.elim_inr]
  refine zg_st (pc' := 46) (L' := [some (.inr 2), some (.inl p1), some (.inl p2), some (.inl s1.1), some (.inl s1.2), none]) (S' := []) (M' := M) rfl rfl rfl rfl ?_
  refine zg_iload_n (x := s1.1) dX3_checksumOfNode_46 rfl ?_
  exact zg_iret dX3_checksumOfNode_47 rfl rfl ⟨by decide, by decide⟩ rfl
theorem dX0_freeAll_0 : decode cX0_freeAll 0 = .ok (.iconst 0, 1) := by decide +kernel
theorem dX0_freeAll_1 : decode cX0_freeAll 1 = .ok (.istore_n 1, 1) := by decide +kernel
theorem dX0_freeAll_2 : decode cX0_freeAll 2 = .ok (.iload_n 1, 1) := by decide +kernel
theorem dX0_freeAll_3 : decode cX0_freeAll 3 = .ok (.bipush 120, 2) := by decide +kernel
theorem dX0_freeAll_5 : decode cX0_freeAll 5 = .ok (.if_icmp .ge 16, 3) := by decide +kernel
theorem dX0_freeAll_8 : decode cX0_freeAll 8 = .ok (.aload_n 0, 1) := by decide +kernel
theorem dX0_freeAll_9 : decode cX0_freeAll 9 = .ok (.getfield 9, 3) := by decide +kernel
theorem dX0_freeAll_12 : decode cX0_freeAll 12 = .ok (.iload_n 1, 1) := by decide +kernel
theorem dX0_freeAll_13 : decode cX0_freeAll 13 = .ok (.iconst 0, 1) := by decide +kernel
theorem dX0_freeAll_14 : decode cX0_freeAll 14 = .ok (.bastore, 1) := by decide +kernel
theorem dX0_freeAll_15 : decode cX0_freeAll 15 = .ok (.iinc 1 1, 3) := by decide +kernel
theorem dX0_freeAll_18 : decode cX0_freeAll 18 = .ok (.goto (-16), 3) := by decide +kernel
theorem dX0_freeAll_21 : decode cX0_freeAll 21 = .ok (.return_, 1) := by decide +kernel
def b_X0_freeAll_2 (rec : Int32 → Mem → Int32 × Mem) (v1 : Int32) (N : Mem) : Int32 × Mem :=
  if 120 ≤ v1 then (v1, N)
  else rec (v1 + 1) (mup N 6 v1.toNatClampNeg 0)
def l_X0_freeAll_2 : Nat → Int32 → Mem → Int32 × Mem
  | 0, v1, N => (v1, N)
  | n + 1, v1, N => b_X0_freeAll_2 (l_X0_freeAll_2 n) v1 N
set_option maxRecDepth 100000 in
set_option maxHeartbeats 4000000 in
theorem kl_X0_freeAll_2 (q : ZQ) {K : Int32 × Mem → ZR} (hx : ∀ e : Int32 × Mem, (0 : Int) ≤ e.1.toInt → Zg (zgX q) mX0_freeAll 0 0 0 0 (K e) 21 [some (.inr 1), some (.inl e.1)] [] e.2) :
    ∀ (n : Nat) (v1 : Int32) (N : Mem), (0 : Int) ≤ v1.toInt → ((120 : Int32).toInt - (v1 : Int32).toInt).toNat < n → Zg (zgX q) mX0_freeAll 0 0 0 0 (zlet (l_X0_freeAll_2 n v1 N) K) 2 [some (.inr 1), some (.inl v1)] [] N := by
  intro n
  induction n with
  | zero => intro v1 N hI hm; exact absurd hm (Nat.not_lt_zero _)
  | succ n ih =>
    intro v1 N hI hm
    show Zg _ _ _ _ _ _ (zlet (b_X0_freeAll_2 (l_X0_freeAll_2 n) v1 N) K) _ _ _ _
    unfold b_X0_freeAll_2
    refine zg_iload_n (x := v1) dX0_freeAll_2 rfl ?_
    refine zg_bipush (v := 120) dX0_freeAll_3 rfl ?_
    refine zg_icmpz (tgt := 21) dX0_freeAll_5 rfl rfl (fun c5 => ?_) (fun c5 => ?_)
    · refine zg_st (pc' := 21) (L' := [some (.inr 1), some (.inl v1)]) (S' := []) (M' := N) rfl rfl rfl rfl ?_
      refine zg_drop (L' := [some (.inr 1), some (.inl v1)]) ⟨rfl, rfl, trivial⟩ ?_
      exact hx (v1, N) hI
    · refine zg_st (pc' := 8) (L' := [some (.inr 1), some (.inl v1)]) (S' := []) (M' := N) rfl rfl rfl rfl ?_
      refine zg_aload_n (x := 1) dX0_freeAll_8 rfl ?_
      refine zg_getf (v := .inr 6) dX0_freeAll_9 zf_X0_9 rfl rfl rfl ?_
      refine zg_iload_n (x := v1) dX0_freeAll_12 rfl ?_
      refine zg_iconst (v := 0) dX0_freeAll_13 rfl ?_
      refine zg_zast (v := 0) dX0_freeAll_14 rfl (by simp only [q_isFile, q_isBlock, q_isBlockOfFile, q_isMirror, q_isSideOfMirror, q_isCell, q_isPlaceNumber, q_isCellOnSide, q_isPointer, q_isBlockPointer, vp_in_iff, Int32.lt_iff_toInt_lt, Int32.le_iff_toInt_le, Int32.reduceToInt] at c5 hI ⊢; omega) rfl ?_
      refine zg_iinc (v := (v1 + 1)) dX0_freeAll_15 rfl (by decide) rfl ?_
      refine zg_st (pc' := 18) (L' := [some (.inr 1), some (.inl (v1 + 1))]) (S' := []) (M' := (mup N 6 v1.toNatClampNeg 0)) rfl rfl rfl rfl ?_
      refine zg_goto (tgt := 2) dX0_freeAll_18 rfl ?_
      refine zg_st (pc' := 2) (L' := [some (.inr 1), some (.inl (v1 + 1))]) (S' := []) (M' := (mup N 6 v1.toNatClampNeg 0)) rfl rfl rfl rfl ?_
      refine zg_drop (L' := [some (.inr 1), some (.inl (v1 + 1))]) ⟨rfl, rfl, trivial⟩ ?_
      exact ih (v1 + 1) (mup N 6 v1.toNatClampNeg 0) (z_ge0 c5 hI) (z_up c5 hm)
def f_X0_freeAll (M : Mem) : Mem :=
  zlet (l_X0_freeAll_2 121 0 M) (fun s1 =>
  s1.2)
set_option maxRecDepth 100000 in
set_option maxHeartbeats 4000000 in
theorem k_X0_freeAll (q : ZQ) (M : Mem) : Zc (zgX q) mX0_freeAll 0 0 [.inr 1] M (wV (f_X0_freeAll M)) := by
  refine Zc.of (by decide) zi_X0_freeAll.1 (Nat.le_of_ble_eq_true rfl) rfl ?_
  show Zg _ _ _ _ _ _ (zlet (f_X0_freeAll M) wV) _ _ _ _
  unfold f_X0_freeAll
  refine zg_iconst (v := 0) dX0_freeAll_0 rfl ?_
  refine zg_istore_n dX0_freeAll_1 (by decide) ?_
  refine zg_st (pc' := 2) (L' := [some (.inr 1), some (.inl 0)]) (S' := []) (M' := M) rfl rfl rfl rfl ?_
  refine zg_asc ?_
  refine zg_drop (L' := [some (.inr 1), some (.inl 0)]) ⟨rfl, rfl, trivial⟩ ?_
  refine kl_X0_freeAll_2 q  (fun s1 hI_s1 => ?_) 121 0 M (by decide) (by decide)
  try dsimp only [Sum.elim_inr]
  refine zg_st (pc' := 21) (L' := [some (.inr 1), some (.inl s1.1)]) (S' := []) (M' := s1.2) rfl rfl rfl rfl ?_
  exact zg_vret dX0_freeAll_21 rfl ⟨by decide, by decide⟩ rfl
theorem dX0_use_0 : decode cX0_use 0 = .ok (.iload_n 1, 1) := by decide +kernel
theorem dX0_use_1 : decode cX0_use 1 = .ok (.invokestatic 29, 3) := by decide +kernel
theorem dX0_use_4 : decode cX0_use 4 = .ok (.ifCond .eq 10, 3) := by decide +kernel
theorem dX0_use_7 : decode cX0_use 7 = .ok (.aload_n 0, 1) := by decide +kernel
theorem dX0_use_8 : decode cX0_use 8 = .ok (.getfield 9, 3) := by decide +kernel
theorem dX0_use_11 : decode cX0_use 11 = .ok (.iload_n 1, 1) := by decide +kernel
theorem dX0_use_12 : decode cX0_use 12 = .ok (.iconst 1, 1) := by decide +kernel
theorem dX0_use_13 : decode cX0_use 13 = .ok (.bastore, 1) := by decide +kernel
theorem dX0_use_14 : decode cX0_use 14 = .ok (.return_, 1) := by decide +kernel
def f_X0_use (p1 : Int32) (M : Mem) : Mem :=
  if (f_X4_isPlaceNumber p1) then (mup M 6 p1.toNatClampNeg 1)
  else M
set_option maxRecDepth 100000 in
set_option maxHeartbeats 4000000 in
theorem k_X0_use (q : ZQ) (p1 : Int32) (M : Mem) : Zc (zgX q) mX0_use 0 0 [.inr 1, .inl p1] M (wV (f_X0_use p1 M)) := by
  refine Zc.of (by decide) zi_X0_use.1 (Nat.le_of_ble_eq_true rfl) rfl ?_
  show Zg _ _ _ _ _ _ (zlet (f_X0_use p1 M) wV) _ _ _ _
  unfold f_X0_use
  refine zg_iload_n (x := p1) dX0_use_0 rfl ?_
  refine zg_cN1 (As := [.inl p1]) (S := []) (v := bI ((f_X4_isPlaceNumber p1))) dX0_use_1 zk_X0_29 (k_X4_isPlaceNumber q p1 M) rfl ⟨by decide, by decide⟩ ⟨by decide, by decide⟩ rfl (Nat.le_of_ble_eq_true rfl) ?_
  refine zg_st (pc' := 4) (L' := [some (.inr 1), some (.inl p1)]) (S' := [.inl (bI ((f_X4_isPlaceNumber p1)))]) (M' := M) rfl rfl rfl rfl ?_
  refine zg_ifbe (tgt := 14) dX0_use_4 rfl (fun c4 => ?_) (fun c4 => ?_)
  · refine zg_st (pc' := 7) (L' := [some (.inr 1), some (.inl p1)]) (S' := []) (M' := M) rfl rfl rfl rfl ?_
    refine zg_aload_n (x := 1) dX0_use_7 rfl ?_
    refine zg_getf (v := .inr 6) dX0_use_8 zf_X0_9 rfl rfl rfl ?_
    refine zg_iload_n (x := p1) dX0_use_11 rfl ?_
    refine zg_iconst (v := 1) dX0_use_12 rfl ?_
    refine zg_zast (v := 1) dX0_use_13 rfl (by simp only [q_isFile, q_isBlock, q_isBlockOfFile, q_isMirror, q_isSideOfMirror, q_isCell, q_isPlaceNumber, q_isCellOnSide, q_isPointer, q_isBlockPointer, vp_in_iff, Int32.lt_iff_toInt_lt, Int32.le_iff_toInt_le, Int32.reduceToInt] at c4 ⊢; omega) rfl ?_
    exact zg_vret dX0_use_14 rfl ⟨by decide, by decide⟩ rfl
  · refine zg_st (pc' := 14) (L' := [some (.inr 1), some (.inl p1)]) (S' := []) (M' := M) rfl rfl rfl rfl ?_
    exact zg_vret dX0_use_14 rfl ⟨by decide, by decide⟩ rfl
theorem dX0_takeOffline_0 : decode cX0_takeOffline 0 = .ok (.iload_n 1, 1) := by decide +kernel
theorem dX0_takeOffline_1 : decode cX0_takeOffline 1 = .ok (.iload_n 2, 1) := by decide +kernel
theorem dX0_takeOffline_2 : decode cX0_takeOffline 2 = .ok (.invokestatic 25, 3) := by decide +kernel
theorem dX0_takeOffline_5 : decode cX0_takeOffline 5 = .ok (.ifCond .eq 25, 3) := by decide +kernel
theorem dX0_takeOffline_8 : decode cX0_takeOffline 8 = .ok (.aload_n 0, 1) := by decide +kernel
theorem dX0_takeOffline_9 : decode cX0_takeOffline 9 = .ok (.getfield 18, 3) := by decide +kernel
theorem dX0_takeOffline_12 : decode cX0_takeOffline 12 = .ok (.iload_n 1, 1) := by decide +kernel
theorem dX0_takeOffline_13 : decode cX0_takeOffline 13 = .ok (.iconst 2, 1) := by decide +kernel
theorem dX0_takeOffline_14 : decode cX0_takeOffline 14 = .ok (.imul, 1) := by decide +kernel
theorem dX0_takeOffline_15 : decode cX0_takeOffline 15 = .ok (.iload_n 2, 1) := by decide +kernel
theorem dX0_takeOffline_16 : decode cX0_takeOffline 16 = .ok (.iadd, 1) := by decide +kernel
theorem dX0_takeOffline_17 : decode cX0_takeOffline 17 = .ok (.iconst 1, 1) := by decide +kernel
theorem dX0_takeOffline_18 : decode cX0_takeOffline 18 = .ok (.bastore, 1) := by decide +kernel
theorem dX0_takeOffline_19 : decode cX0_takeOffline 19 = .ok (.aload_n 0, 1) := by decide +kernel
theorem dX0_takeOffline_20 : decode cX0_takeOffline 20 = .ok (.getfield 21, 3) := by decide +kernel
theorem dX0_takeOffline_23 : decode cX0_takeOffline 23 = .ok (.iload_n 1, 1) := by decide +kernel
theorem dX0_takeOffline_24 : decode cX0_takeOffline 24 = .ok (.iconst 2, 1) := by decide +kernel
theorem dX0_takeOffline_25 : decode cX0_takeOffline 25 = .ok (.imul, 1) := by decide +kernel
theorem dX0_takeOffline_26 : decode cX0_takeOffline 26 = .ok (.iload_n 2, 1) := by decide +kernel
theorem dX0_takeOffline_27 : decode cX0_takeOffline 27 = .ok (.iadd, 1) := by decide +kernel
theorem dX0_takeOffline_28 : decode cX0_takeOffline 28 = .ok (.iload_n 3, 1) := by decide +kernel
theorem dX0_takeOffline_29 : decode cX0_takeOffline 29 = .ok (.iastore, 1) := by decide +kernel
theorem dX0_takeOffline_30 : decode cX0_takeOffline 30 = .ok (.return_, 1) := by decide +kernel
def f_X0_takeOffline (p1 : Int32) (p2 : Int32) (p3 : Int32) (M : Mem) : Mem :=
  if (f_X4_isSideOfMirror p1 p2) then (mup (mup M 8 ((p1 * 2) + p2).toNatClampNeg 1) 9 ((p1 * 2) + p2).toNatClampNeg p3)
  else M
set_option maxRecDepth 100000 in
set_option maxHeartbeats 4000000 in
theorem k_X0_takeOffline (q : ZQ) (p1 : Int32) (p2 : Int32) (p3 : Int32) (M : Mem) : Zc (zgX q) mX0_takeOffline 0 0 [.inr 1, .inl p1, .inl p2, .inl p3] M (wV (f_X0_takeOffline p1 p2 p3 M)) := by
  refine Zc.of (by decide) zi_X0_takeOffline.1 (Nat.le_of_ble_eq_true rfl) rfl ?_
  show Zg _ _ _ _ _ _ (zlet (f_X0_takeOffline p1 p2 p3 M) wV) _ _ _ _
  unfold f_X0_takeOffline
  refine zg_iload_n (x := p1) dX0_takeOffline_0 rfl ?_
  refine zg_iload_n (x := p2) dX0_takeOffline_1 rfl ?_
  refine zg_cN1 (As := [.inl p1, .inl p2]) (S := []) (v := bI ((f_X4_isSideOfMirror p1 p2))) dX0_takeOffline_2 zk_X0_25 (k_X4_isSideOfMirror q p1 p2 M) rfl ⟨by decide, by decide⟩ ⟨by decide, by decide⟩ rfl (Nat.le_of_ble_eq_true rfl) ?_
  refine zg_st (pc' := 5) (L' := [some (.inr 1), some (.inl p1), some (.inl p2), some (.inl p3)]) (S' := [.inl (bI ((f_X4_isSideOfMirror p1 p2)))]) (M' := M) rfl rfl rfl rfl ?_
  refine zg_ifbe (tgt := 30) dX0_takeOffline_5 rfl (fun c5 => ?_) (fun c5 => ?_)
  · refine zg_st (pc' := 8) (L' := [some (.inr 1), some (.inl p1), some (.inl p2), some (.inl p3)]) (S' := []) (M' := M) rfl rfl rfl rfl ?_
    refine zg_aload_n (x := 1) dX0_takeOffline_8 rfl ?_
    refine zg_getf (v := .inr 8) dX0_takeOffline_9 zf_X0_18 rfl rfl rfl ?_
    refine zg_iload_n (x := p1) dX0_takeOffline_12 rfl ?_
    refine zg_iconst (v := 2) dX0_takeOffline_13 rfl ?_
    refine zg_imul dX0_takeOffline_14 ?_
    refine zg_iload_n (x := p2) dX0_takeOffline_15 rfl ?_
    refine zg_iadd dX0_takeOffline_16 ?_
    refine zg_iconst (v := 1) dX0_takeOffline_17 rfl ?_
    refine zg_zast (v := 1) dX0_takeOffline_18 rfl (z_ix2 (by simp only [q_isFile, q_isBlock, q_isBlockOfFile, q_isMirror, q_isSideOfMirror, q_isCell, q_isPlaceNumber, q_isCellOnSide, q_isPointer, q_isBlockPointer, vp_in_iff, Int32.lt_iff_toInt_lt, Int32.le_iff_toInt_le, Int32.reduceToInt] at c5 ⊢; omega) (by simp only [q_isFile, q_isBlock, q_isBlockOfFile, q_isMirror, q_isSideOfMirror, q_isCell, q_isPlaceNumber, q_isCellOnSide, q_isPointer, q_isBlockPointer, vp_in_iff, Int32.lt_iff_toInt_lt, Int32.le_iff_toInt_le, Int32.reduceToInt] at c5 ⊢; omega)) rfl ?_
    refine zg_aload_n (x := 1) dX0_takeOffline_19 rfl ?_
    refine zg_getf (v := .inr 9) dX0_takeOffline_20 zf_X0_21 rfl rfl rfl ?_
    refine zg_iload_n (x := p1) dX0_takeOffline_23 rfl ?_
    refine zg_iconst (v := 2) dX0_takeOffline_24 rfl ?_
    refine zg_imul dX0_takeOffline_25 ?_
    refine zg_iload_n (x := p2) dX0_takeOffline_26 rfl ?_
    refine zg_iadd dX0_takeOffline_27 ?_
    refine zg_iload_n (x := p3) dX0_takeOffline_28 rfl ?_
    refine zg_iast dX0_takeOffline_29 rfl (z_ix2 (by simp only [q_isFile, q_isBlock, q_isBlockOfFile, q_isMirror, q_isSideOfMirror, q_isCell, q_isPlaceNumber, q_isCellOnSide, q_isPointer, q_isBlockPointer, vp_in_iff, Int32.lt_iff_toInt_lt, Int32.le_iff_toInt_le, Int32.reduceToInt] at c5 ⊢; omega) (by simp only [q_isFile, q_isBlock, q_isBlockOfFile, q_isMirror, q_isSideOfMirror, q_isCell, q_isPlaceNumber, q_isCellOnSide, q_isPointer, q_isBlockPointer, vp_in_iff, Int32.lt_iff_toInt_lt, Int32.le_iff_toInt_le, Int32.reduceToInt] at c5 ⊢; omega)) ?_
    exact zg_vret dX0_takeOffline_30 rfl ⟨by decide, by decide⟩ rfl
  · refine zg_st (pc' := 30) (L' := [some (.inr 1), some (.inl p1), some (.inl p2), some (.inl p3)]) (S' := []) (M' := M) rfl rfl rfl rfl ?_
    exact zg_vret dX0_takeOffline_30 rfl ⟨by decide, by decide⟩ rfl
theorem dX0_outageOf_0 : decode cX0_outageOf 0 = .ok (.iload_n 1, 1) := by decide +kernel
theorem dX0_outageOf_1 : decode cX0_outageOf 1 = .ok (.iload_n 2, 1) := by decide +kernel
theorem dX0_outageOf_2 : decode cX0_outageOf 2 = .ok (.invokestatic 25, 3) := by decide +kernel
theorem dX0_outageOf_5 : decode cX0_outageOf 5 = .ok (.ifCond .eq 16, 3) := by decide +kernel
theorem dX0_outageOf_8 : decode cX0_outageOf 8 = .ok (.aload_n 0, 1) := by decide +kernel
theorem dX0_outageOf_9 : decode cX0_outageOf 9 = .ok (.getfield 21, 3) := by decide +kernel
theorem dX0_outageOf_12 : decode cX0_outageOf 12 = .ok (.iload_n 1, 1) := by decide +kernel
theorem dX0_outageOf_13 : decode cX0_outageOf 13 = .ok (.iconst 2, 1) := by decide +kernel
theorem dX0_outageOf_14 : decode cX0_outageOf 14 = .ok (.imul, 1) := by decide +kernel
theorem dX0_outageOf_15 : decode cX0_outageOf 15 = .ok (.iload_n 2, 1) := by decide +kernel
theorem dX0_outageOf_16 : decode cX0_outageOf 16 = .ok (.iadd, 1) := by decide +kernel
theorem dX0_outageOf_17 : decode cX0_outageOf 17 = .ok (.iaload, 1) := by decide +kernel
theorem dX0_outageOf_18 : decode cX0_outageOf 18 = .ok (.goto 4, 3) := by decide +kernel
theorem dX0_outageOf_21 : decode cX0_outageOf 21 = .ok (.iconst 0, 1) := by decide +kernel
theorem dX0_outageOf_22 : decode cX0_outageOf 22 = .ok (.ireturn, 1) := by decide +kernel
def f_X0_outageOf (p1 : Int32) (p2 : Int32) (M : Mem) : Int32 :=
  if (f_X4_isSideOfMirror p1 p2) then (M 9 ((p1 * 2) + p2).toNatClampNeg)
  else 0
set_option maxRecDepth 100000 in
set_option maxHeartbeats 4000000 in
theorem k_X0_outageOf (q : ZQ) (p1 : Int32) (p2 : Int32) (M : Mem) : Zc (zgX q) mX0_outageOf 0 0 [.inr 1, .inl p1, .inl p2] M (wI M (f_X0_outageOf p1 p2 M)) := by
  refine Zc.of (by decide) zi_X0_outageOf.1 (Nat.le_of_ble_eq_true rfl) rfl ?_
  show Zg _ _ _ _ _ _ (zlet (f_X0_outageOf p1 p2 M) (wI M)) _ _ _ _
  unfold f_X0_outageOf
  refine zg_iload_n (x := p1) dX0_outageOf_0 rfl ?_
  refine zg_iload_n (x := p2) dX0_outageOf_1 rfl ?_
  refine zg_cN1 (As := [.inl p1, .inl p2]) (S := []) (v := bI ((f_X4_isSideOfMirror p1 p2))) dX0_outageOf_2 zk_X0_25 (k_X4_isSideOfMirror q p1 p2 M) rfl ⟨by decide, by decide⟩ ⟨by decide, by decide⟩ rfl (Nat.le_of_ble_eq_true rfl) ?_
  refine zg_st (pc' := 5) (L' := [some (.inr 1), some (.inl p1), some (.inl p2)]) (S' := [.inl (bI ((f_X4_isSideOfMirror p1 p2)))]) (M' := M) rfl rfl rfl rfl ?_
  refine zg_ifbe (tgt := 21) dX0_outageOf_5 rfl (fun c5 => ?_) (fun c5 => ?_)
  · refine zg_st (pc' := 8) (L' := [some (.inr 1), some (.inl p1), some (.inl p2)]) (S' := []) (M' := M) rfl rfl rfl rfl ?_
    refine zg_aload_n (x := 1) dX0_outageOf_8 rfl ?_
    refine zg_getf (v := .inr 9) dX0_outageOf_9 zf_X0_21 rfl rfl rfl ?_
    refine zg_iload_n (x := p1) dX0_outageOf_12 rfl ?_
    refine zg_iconst (v := 2) dX0_outageOf_13 rfl ?_
    refine zg_imul dX0_outageOf_14 ?_
    refine zg_iload_n (x := p2) dX0_outageOf_15 rfl ?_
    refine zg_iadd dX0_outageOf_16 ?_
    refine zg_iald dX0_outageOf_17 rfl (z_ix2 (by simp only [q_isFile, q_isBlock, q_isBlockOfFile, q_isMirror, q_isSideOfMirror, q_isCell, q_isPlaceNumber, q_isCellOnSide, q_isPointer, q_isBlockPointer, vp_in_iff, Int32.lt_iff_toInt_lt, Int32.le_iff_toInt_le, Int32.reduceToInt] at c5 ⊢; omega) (by simp only [q_isFile, q_isBlock, q_isBlockOfFile, q_isMirror, q_isSideOfMirror, q_isCell, q_isPlaceNumber, q_isCellOnSide, q_isPointer, q_isBlockPointer, vp_in_iff, Int32.lt_iff_toInt_lt, Int32.le_iff_toInt_le, Int32.reduceToInt] at c5 ⊢; omega)) ?_
    refine zg_goto (tgt := 22) dX0_outageOf_18 rfl ?_
    refine zg_st (pc' := 22) (L' := [some (.inr 1), some (.inl p1), some (.inl p2)]) (S' := [.inl (M 9 ((p1 * 2) + p2).toNatClampNeg)]) (M' := M) rfl rfl rfl rfl ?_
    exact zg_iret dX0_outageOf_22 rfl rfl ⟨by decide, by decide⟩ rfl
  · refine zg_st (pc' := 21) (L' := [some (.inr 1), some (.inl p1), some (.inl p2)]) (S' := []) (M' := M) rfl rfl rfl rfl ?_
    refine zg_iconst (v := 0) dX0_outageOf_21 rfl ?_
    exact zg_iret dX0_outageOf_22 rfl rfl ⟨by decide, by decide⟩ rfl
theorem dX0_bringOnline_0 : decode cX0_bringOnline 0 = .ok (.iload_n 1, 1) := by decide +kernel
theorem dX0_bringOnline_1 : decode cX0_bringOnline 1 = .ok (.iload_n 2, 1) := by decide +kernel
theorem dX0_bringOnline_2 : decode cX0_bringOnline 2 = .ok (.invokestatic 25, 3) := by decide +kernel
theorem dX0_bringOnline_5 : decode cX0_bringOnline 5 = .ok (.ifCond .eq 14, 3) := by decide +kernel
theorem dX0_bringOnline_8 : decode cX0_bringOnline 8 = .ok (.aload_n 0, 1) := by decide +kernel
theorem dX0_bringOnline_9 : decode cX0_bringOnline 9 = .ok (.getfield 18, 3) := by decide +kernel
theorem dX0_bringOnline_12 : decode cX0_bringOnline 12 = .ok (.iload_n 1, 1) := by decide +kernel
theorem dX0_bringOnline_13 : decode cX0_bringOnline 13 = .ok (.iconst 2, 1) := by decide +kernel
theorem dX0_bringOnline_14 : decode cX0_bringOnline 14 = .ok (.imul, 1) := by decide +kernel
theorem dX0_bringOnline_15 : decode cX0_bringOnline 15 = .ok (.iload_n 2, 1) := by decide +kernel
theorem dX0_bringOnline_16 : decode cX0_bringOnline 16 = .ok (.iadd, 1) := by decide +kernel
theorem dX0_bringOnline_17 : decode cX0_bringOnline 17 = .ok (.iconst 0, 1) := by decide +kernel
theorem dX0_bringOnline_18 : decode cX0_bringOnline 18 = .ok (.bastore, 1) := by decide +kernel
theorem dX0_bringOnline_19 : decode cX0_bringOnline 19 = .ok (.return_, 1) := by decide +kernel
def f_X0_bringOnline (p1 : Int32) (p2 : Int32) (M : Mem) : Mem :=
  if (f_X4_isSideOfMirror p1 p2) then (mup M 8 ((p1 * 2) + p2).toNatClampNeg 0)
  else M
set_option maxRecDepth 100000 in
set_option maxHeartbeats 4000000 in
theorem k_X0_bringOnline (q : ZQ) (p1 : Int32) (p2 : Int32) (M : Mem) : Zc (zgX q) mX0_bringOnline 0 0 [.inr 1, .inl p1, .inl p2] M (wV (f_X0_bringOnline p1 p2 M)) := by
  refine Zc.of (by decide) zi_X0_bringOnline.1 (Nat.le_of_ble_eq_true rfl) rfl ?_
  show Zg _ _ _ _ _ _ (zlet (f_X0_bringOnline p1 p2 M) wV) _ _ _ _
  unfold f_X0_bringOnline
  refine zg_iload_n (x := p1) dX0_bringOnline_0 rfl ?_
  refine zg_iload_n (x := p2) dX0_bringOnline_1 rfl ?_
  refine zg_cN1 (As := [.inl p1, .inl p2]) (S := []) (v := bI ((f_X4_isSideOfMirror p1 p2))) dX0_bringOnline_2 zk_X0_25 (k_X4_isSideOfMirror q p1 p2 M) rfl ⟨by decide, by decide⟩ ⟨by decide, by decide⟩ rfl (Nat.le_of_ble_eq_true rfl) ?_
  refine zg_st (pc' := 5) (L' := [some (.inr 1), some (.inl p1), some (.inl p2)]) (S' := [.inl (bI ((f_X4_isSideOfMirror p1 p2)))]) (M' := M) rfl rfl rfl rfl ?_
  refine zg_ifbe (tgt := 19) dX0_bringOnline_5 rfl (fun c5 => ?_) (fun c5 => ?_)
  · refine zg_st (pc' := 8) (L' := [some (.inr 1), some (.inl p1), some (.inl p2)]) (S' := []) (M' := M) rfl rfl rfl rfl ?_
    refine zg_aload_n (x := 1) dX0_bringOnline_8 rfl ?_
    refine zg_getf (v := .inr 8) dX0_bringOnline_9 zf_X0_18 rfl rfl rfl ?_
    refine zg_iload_n (x := p1) dX0_bringOnline_12 rfl ?_
    refine zg_iconst (v := 2) dX0_bringOnline_13 rfl ?_
    refine zg_imul dX0_bringOnline_14 ?_
    refine zg_iload_n (x := p2) dX0_bringOnline_15 rfl ?_
    refine zg_iadd dX0_bringOnline_16 ?_
    refine zg_iconst (v := 0) dX0_bringOnline_17 rfl ?_
    refine zg_zast (v := 0) dX0_bringOnline_18 rfl (z_ix2 (by simp only [q_isFile, q_isBlock, q_isBlockOfFile, q_isMirror, q_isSideOfMirror, q_isCell, q_isPlaceNumber, q_isCellOnSide, q_isPointer, q_isBlockPointer, vp_in_iff, Int32.lt_iff_toInt_lt, Int32.le_iff_toInt_le, Int32.reduceToInt] at c5 ⊢; omega) (by simp only [q_isFile, q_isBlock, q_isBlockOfFile, q_isMirror, q_isSideOfMirror, q_isCell, q_isPlaceNumber, q_isCellOnSide, q_isPointer, q_isBlockPointer, vp_in_iff, Int32.lt_iff_toInt_lt, Int32.le_iff_toInt_le, Int32.reduceToInt] at c5 ⊢; omega)) rfl ?_
    exact zg_vret dX0_bringOnline_19 rfl ⟨by decide, by decide⟩ rfl
  · refine zg_st (pc' := 19) (L' := [some (.inr 1), some (.inl p1), some (.inl p2)]) (S' := []) (M' := M) rfl rfl rfl rfl ?_
    exact zg_vret dX0_bringOnline_19 rfl ⟨by decide, by decide⟩ rfl
theorem dX3_countPlaces_0 : decode cX3_countPlaces 0 = .ok (.aload_n 0, 1) := by decide +kernel
theorem dX3_countPlaces_1 : decode cX3_countPlaces 1 = .ok (.iload_n 1, 1) := by decide +kernel
theorem dX3_countPlaces_2 : decode cX3_countPlaces 2 = .ok (.invokevirtual 44, 3) := by decide +kernel
theorem dX3_countPlaces_5 : decode cX3_countPlaces 5 = .ok (.ifCond .eq 5, 3) := by decide +kernel
theorem dX3_countPlaces_8 : decode cX3_countPlaces 8 = .ok (.iconst 0, 1) := by decide +kernel
theorem dX3_countPlaces_9 : decode cX3_countPlaces 9 = .ok (.ireturn, 1) := by decide +kernel
theorem dX3_countPlaces_10 : decode cX3_countPlaces 10 = .ok (.aload_n 0, 1) := by decide +kernel
theorem dX3_countPlaces_11 : decode cX3_countPlaces 11 = .ok (.iload_n 1, 1) := by decide +kernel
theorem dX3_countPlaces_12 : decode cX3_countPlaces 12 = .ok (.iconst 1, 1) := by decide +kernel
theorem dX3_countPlaces_13 : decode cX3_countPlaces 13 = .ok (.invokevirtual 37, 3) := by decide +kernel
theorem dX3_countPlaces_16 : decode cX3_countPlaces 16 = .ok (.iconst (-1), 1) := by decide +kernel
theorem dX3_countPlaces_17 : decode cX3_countPlaces 17 = .ok (.if_icmp .ne 7, 3) := by decide +kernel
theorem dX3_countPlaces_20 : decode cX3_countPlaces 20 = .ok (.iconst 1, 1) := by decide +kernel
theorem dX3_countPlaces_21 : decode cX3_countPlaces 21 = .ok (.goto 4, 3) := by decide +kernel
theorem dX3_countPlaces_24 : decode cX3_countPlaces 24 = .ok (.iconst 2, 1) := by decide +kernel
theorem dX3_countPlaces_25 : decode cX3_countPlaces 25 = .ok (.ireturn, 1) := by decide +kernel
def f_X3_countPlaces (p1 : Int32) (M : Mem) : Int32 :=
  if (f_X3_isMissing p1 M) then 0
  else if ¬ (f_X3_placeOf p1 1 M) = (-1) then 2
  else 1
set_option maxRecDepth 100000 in
set_option maxHeartbeats 4000000 in
theorem k_X3_countPlaces (q : ZQ) (p1 : Int32) (M : Mem) : Zc (zgX q) mX3_countPlaces 0 0 [.inr 2, .inl p1] M (wI M (f_X3_countPlaces p1 M)) := by
  refine Zc.of (by decide) zi_X3_countPlaces.1 (Nat.le_of_ble_eq_true rfl) rfl ?_
  show Zg _ _ _ _ _ _ (zlet (f_X3_countPlaces p1 M) (wI M)) _ _ _ _
  unfold f_X3_countPlaces
  refine zg_aload_n (x := 2) dX3_countPlaces_0 rfl ?_
  refine zg_iload_n (x := p1) dX3_countPlaces_1 rfl ?_
  refine zg_cV1 (As := [.inl p1]) (S := []) (v := bI ((f_X3_isMissing p1 M))) dX3_countPlaces_2 zk_X3_44 (k_X3_isMissing q p1 M) rfl rfl ⟨by decide, by decide⟩ ⟨by decide, by decide⟩ rfl (Nat.le_of_ble_eq_true rfl) ?_
  refine zg_st (pc' := 5) (L' := [some (.inr 2), some (.inl p1)]) (S' := [.inl (bI ((f_X3_isMissing p1 M)))]) (M' := M) rfl rfl rfl rfl ?_
  refine zg_ifbe (tgt := 10) dX3_countPlaces_5 rfl (fun c5 => ?_) (fun c5 => ?_)
  · refine zg_st (pc' := 8) (L' := [some (.inr 2), some (.inl p1)]) (S' := []) (M' := M) rfl rfl rfl rfl ?_
    refine zg_iconst (v := 0) dX3_countPlaces_8 rfl ?_
    exact zg_iret dX3_countPlaces_9 rfl rfl ⟨by decide, by decide⟩ rfl
  · refine zg_st (pc' := 10) (L' := [some (.inr 2), some (.inl p1)]) (S' := []) (M' := M) rfl rfl rfl rfl ?_
    refine zg_aload_n (x := 2) dX3_countPlaces_10 rfl ?_
    refine zg_iload_n (x := p1) dX3_countPlaces_11 rfl ?_
    refine zg_iconst (v := 1) dX3_countPlaces_12 rfl ?_
    refine zg_cV1 (As := [.inl p1, .inl 1]) (S := []) (v := (f_X3_placeOf p1 1 M)) dX3_countPlaces_13 zk_X3_37 (k_X3_placeOf q p1 1 M) rfl rfl ⟨by decide, by decide⟩ ⟨by decide, by decide⟩ rfl (Nat.le_of_ble_eq_true rfl) ?_
    refine zg_st (pc' := 16) (L' := [some (.inr 2), some (.inl p1)]) (S' := [.inl (f_X3_placeOf p1 1 M)]) (M' := M) rfl rfl rfl rfl ?_
    refine zg_iconst (v := (-1)) dX3_countPlaces_16 rfl ?_
    refine zg_icmpz (tgt := 24) dX3_countPlaces_17 rfl rfl (fun c17 => ?_) (fun c17 => ?_)
    · refine zg_st (pc' := 24) (L' := [some (.inr 2), some (.inl p1)]) (S' := []) (M' := M) rfl rfl rfl rfl ?_
      refine zg_iconst (v := 2) dX3_countPlaces_24 rfl ?_
      exact zg_iret dX3_countPlaces_25 rfl rfl ⟨by decide, by decide⟩ rfl
    · refine zg_st (pc' := 20) (L' := [some (.inr 2), some (.inl p1)]) (S' := []) (M' := M) rfl rfl rfl rfl ?_
      refine zg_iconst (v := 1) dX3_countPlaces_20 rfl ?_
      refine zg_goto (tgt := 25) dX3_countPlaces_21 rfl ?_
      refine zg_st (pc' := 25) (L' := [some (.inr 2), some (.inl p1)]) (S' := [.inl 1]) (M' := M) rfl rfl rfl rfl ?_
      exact zg_iret dX3_countPlaces_25 rfl rfl ⟨by decide, by decide⟩ rfl
