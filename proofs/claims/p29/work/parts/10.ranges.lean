theorem dX4_isFile_0 : decode cX4_isFile 0 = .ok (.iload_n 0, 1) := by decide +kernel
theorem dX4_isFile_1 : decode cX4_isFile 1 = .ok (.ifCond .lt 12, 3) := by decide +kernel
theorem dX4_isFile_4 : decode cX4_isFile 4 = .ok (.iload_n 0, 1) := by decide +kernel
theorem dX4_isFile_5 : decode cX4_isFile 5 = .ok (.iconst 4, 1) := by decide +kernel
theorem dX4_isFile_6 : decode cX4_isFile 6 = .ok (.if_icmp .ge 7, 3) := by decide +kernel
theorem dX4_isFile_9 : decode cX4_isFile 9 = .ok (.iconst 1, 1) := by decide +kernel
theorem dX4_isFile_10 : decode cX4_isFile 10 = .ok (.goto 4, 3) := by decide +kernel
theorem dX4_isFile_13 : decode cX4_isFile 13 = .ok (.iconst 0, 1) := by decide +kernel
theorem dX4_isFile_14 : decode cX4_isFile 14 = .ok (.ireturn, 1) := by decide +kernel
def f_X4_isFile (p0 : Int32) : Bool :=
  if p0 < 0 then false
  else if 4 ≤ p0 then false
  else true
set_option maxRecDepth 100000 in
set_option maxHeartbeats 4000000 in
theorem k_X4_isFile (q : ZQ) (p0 : Int32) (M : Mem) : Zc (zgX q) mX4_isFile 0 0 [.inl p0] M (wB M (f_X4_isFile p0)) := by
  refine Zc.of (by decide) zi_X4_isFile.1 (Nat.le_of_ble_eq_true rfl) rfl ?_
  show Zg _ _ _ _ _ _ (zlet (f_X4_isFile p0) (wB M)) _ _ _ _
  unfold f_X4_isFile
  refine zg_iload_n (x := p0) dX4_isFile_0 rfl ?_
  refine zg_ifz (tgt := 13) dX4_isFile_1 rfl rfl (fun c1 => ?_) (fun c1 => ?_)
  · refine zg_st (pc' := 13) (L' := [some (.inl p0)]) (S' := []) (M' := M) rfl rfl rfl rfl ?_
    refine zg_iconst (v := 0) dX4_isFile_13 rfl ?_
    exact zg_iret dX4_isFile_14 rfl rfl ⟨by decide, by decide⟩ rfl
  · refine zg_st (pc' := 4) (L' := [some (.inl p0)]) (S' := []) (M' := M) rfl rfl rfl rfl ?_
    refine zg_iload_n (x := p0) dX4_isFile_4 rfl ?_
    refine zg_iconst (v := 4) dX4_isFile_5 rfl ?_
    refine zg_icmpz (tgt := 13) dX4_isFile_6 rfl rfl (fun c6 => ?_) (fun c6 => ?_)
    · refine zg_st (pc' := 13) (L' := [some (.inl p0)]) (S' := []) (M' := M) rfl rfl rfl rfl ?_
      refine zg_iconst (v := 0) dX4_isFile_13 rfl ?_
      exact zg_iret dX4_isFile_14 rfl rfl ⟨by decide, by decide⟩ rfl
    · refine zg_st (pc' := 9) (L' := [some (.inl p0)]) (S' := []) (M' := M) rfl rfl rfl rfl ?_
      refine zg_iconst (v := 1) dX4_isFile_9 rfl ?_
      refine zg_goto (tgt := 14) dX4_isFile_10 rfl ?_
      refine zg_st (pc' := 14) (L' := [some (.inl p0)]) (S' := [.inl 1]) (M' := M) rfl rfl rfl rfl ?_
      exact zg_iret dX4_isFile_14 rfl rfl ⟨by decide, by decide⟩ rfl
theorem dX4_isBlock_0 : decode cX4_isBlock 0 = .ok (.iload_n 0, 1) := by decide +kernel
theorem dX4_isBlock_1 : decode cX4_isBlock 1 = .ok (.ifCond .lt 13, 3) := by decide +kernel
theorem dX4_isBlock_4 : decode cX4_isBlock 4 = .ok (.iload_n 0, 1) := by decide +kernel
theorem dX4_isBlock_5 : decode cX4_isBlock 5 = .ok (.bipush 12, 2) := by decide +kernel
theorem dX4_isBlock_7 : decode cX4_isBlock 7 = .ok (.if_icmp .ge 7, 3) := by decide +kernel
theorem dX4_isBlock_10 : decode cX4_isBlock 10 = .ok (.iconst 1, 1) := by decide +kernel
theorem dX4_isBlock_11 : decode cX4_isBlock 11 = .ok (.goto 4, 3) := by decide +kernel
theorem dX4_isBlock_14 : decode cX4_isBlock 14 = .ok (.iconst 0, 1) := by decide +kernel
theorem dX4_isBlock_15 : decode cX4_isBlock 15 = .ok (.ireturn, 1) := by decide +kernel
def f_X4_isBlock (p0 : Int32) : Bool :=
  if p0 < 0 then false
  else if 12 ≤ p0 then false
  else true
set_option maxRecDepth 100000 in
set_option maxHeartbeats 4000000 in
theorem k_X4_isBlock (q : ZQ) (p0 : Int32) (M : Mem) : Zc (zgX q) mX4_isBlock 0 0 [.inl p0] M (wB M (f_X4_isBlock p0)) := by
  refine Zc.of (by decide) zi_X4_isBlock.1 (Nat.le_of_ble_eq_true rfl) rfl ?_
  show Zg _ _ _ _ _ _ (zlet (f_X4_isBlock p0) (wB M)) _ _ _ _
  unfold f_X4_isBlock
  refine zg_iload_n (x := p0) dX4_isBlock_0 rfl ?_
  refine zg_ifz (tgt := 14) dX4_isBlock_1 rfl rfl (fun c1 => ?_) (fun c1 => ?_)
  · refine zg_st (pc' := 14) (L' := [some (.inl p0)]) (S' := []) (M' := M) rfl rfl rfl rfl ?_
    refine zg_iconst (v := 0) dX4_isBlock_14 rfl ?_
    exact zg_iret dX4_isBlock_15 rfl rfl ⟨by decide, by decide⟩ rfl
  · refine zg_st (pc' := 4) (L' := [some (.inl p0)]) (S' := []) (M' := M) rfl rfl rfl rfl ?_
    refine zg_iload_n (x := p0) dX4_isBlock_4 rfl ?_
    refine zg_bipush (v := 12) dX4_isBlock_5 rfl ?_
    refine zg_icmpz (tgt := 14) dX4_isBlock_7 rfl rfl (fun c7 => ?_) (fun c7 => ?_)
    · refine zg_st (pc' := 14) (L' := [some (.inl p0)]) (S' := []) (M' := M) rfl rfl rfl rfl ?_
      refine zg_iconst (v := 0) dX4_isBlock_14 rfl ?_
      exact zg_iret dX4_isBlock_15 rfl rfl ⟨by decide, by decide⟩ rfl
    · refine zg_st (pc' := 10) (L' := [some (.inl p0)]) (S' := []) (M' := M) rfl rfl rfl rfl ?_
      refine zg_iconst (v := 1) dX4_isBlock_10 rfl ?_
      refine zg_goto (tgt := 15) dX4_isBlock_11 rfl ?_
      refine zg_st (pc' := 15) (L' := [some (.inl p0)]) (S' := [.inl 1]) (M' := M) rfl rfl rfl rfl ?_
      exact zg_iret dX4_isBlock_15 rfl rfl ⟨by decide, by decide⟩ rfl
theorem dX4_isBlockOfFile_0 : decode cX4_isBlockOfFile 0 = .ok (.iload_n 0, 1) := by decide +kernel
theorem dX4_isBlockOfFile_1 : decode cX4_isBlockOfFile 1 = .ok (.invokestatic 79, 3) := by decide +kernel
theorem dX4_isBlockOfFile_4 : decode cX4_isBlockOfFile 4 = .ok (.ifCond .eq 14, 3) := by decide +kernel
theorem dX4_isBlockOfFile_7 : decode cX4_isBlockOfFile 7 = .ok (.iload_n 1, 1) := by decide +kernel
theorem dX4_isBlockOfFile_8 : decode cX4_isBlockOfFile 8 = .ok (.invokestatic 73, 3) := by decide +kernel
theorem dX4_isBlockOfFile_11 : decode cX4_isBlockOfFile 11 = .ok (.ifCond .eq 7, 3) := by decide +kernel
theorem dX4_isBlockOfFile_14 : decode cX4_isBlockOfFile 14 = .ok (.iconst 1, 1) := by decide +kernel
theorem dX4_isBlockOfFile_15 : decode cX4_isBlockOfFile 15 = .ok (.goto 4, 3) := by decide +kernel
theorem dX4_isBlockOfFile_18 : decode cX4_isBlockOfFile 18 = .ok (.iconst 0, 1) := by decide +kernel
theorem dX4_isBlockOfFile_19 : decode cX4_isBlockOfFile 19 = .ok (.ireturn, 1) := by decide +kernel
def f_X4_isBlockOfFile (p0 : Int32) (p1 : Int32) : Bool :=
  if (f_X4_isFile p0) then if (f_X4_isBlock p1) then true
    else false
  else false
set_option maxRecDepth 100000 in
set_option maxHeartbeats 4000000 in
theorem k_X4_isBlockOfFile (q : ZQ) (p0 : Int32) (p1 : Int32) (M : Mem) : Zc (zgX q) mX4_isBlockOfFile 0 0 [.inl p0, .inl p1] M (wB M (f_X4_isBlockOfFile p0 p1)) := by
  refine Zc.of (by decide) zi_X4_isBlockOfFile.1 (Nat.le_of_ble_eq_true rfl) rfl ?_
  show Zg _ _ _ _ _ _ (zlet (f_X4_isBlockOfFile p0 p1) (wB M)) _ _ _ _
  unfold f_X4_isBlockOfFile
  refine zg_iload_n (x := p0) dX4_isBlockOfFile_0 rfl ?_
  refine zg_cS1 (As := [.inl p0]) (S := []) (v := bI ((f_X4_isFile p0))) dX4_isBlockOfFile_1 zk_X4_79 (k_X4_isFile q p0 M) rfl ⟨by decide, by decide⟩ ⟨by decide, by decide⟩ rfl (Nat.le_of_ble_eq_true rfl) ?_
  refine zg_st (pc' := 4) (L' := [some (.inl p0), some (.inl p1)]) (S' := [.inl (bI ((f_X4_isFile p0)))]) (M' := M) rfl rfl rfl rfl ?_
  refine zg_ifbe (tgt := 18) dX4_isBlockOfFile_4 rfl (fun c4 => ?_) (fun c4 => ?_)
  · refine zg_st (pc' := 7) (L' := [some (.inl p0), some (.inl p1)]) (S' := []) (M' := M) rfl rfl rfl rfl ?_
    refine zg_iload_n (x := p1) dX4_isBlockOfFile_7 rfl ?_
    refine zg_cS1 (As := [.inl p1]) (S := []) (v := bI ((f_X4_isBlock p1))) dX4_isBlockOfFile_8 zk_X4_73 (k_X4_isBlock q p1 M) rfl ⟨by decide, by decide⟩ ⟨by decide, by decide⟩ rfl (Nat.le_of_ble_eq_true rfl) ?_
    refine zg_st (pc' := 11) (L' := [some (.inl p0), some (.inl p1)]) (S' := [.inl (bI ((f_X4_isBlock p1)))]) (M' := M) rfl rfl rfl rfl ?_
    refine zg_ifbe (tgt := 18) dX4_isBlockOfFile_11 rfl (fun c11 => ?_) (fun c11 => ?_)
    · refine zg_st (pc' := 14) (L' := [some (.inl p0), some (.inl p1)]) (S' := []) (M' := M) rfl rfl rfl rfl ?_
      refine zg_iconst (v := 1) dX4_isBlockOfFile_14 rfl ?_
      refine zg_goto (tgt := 19) dX4_isBlockOfFile_15 rfl ?_
      refine zg_st (pc' := 19) (L' := [some (.inl p0), some (.inl p1)]) (S' := [.inl 1]) (M' := M) rfl rfl rfl rfl ?_
      exact zg_iret dX4_isBlockOfFile_19 rfl rfl ⟨by decide, by decide⟩ rfl
    · refine zg_st (pc' := 18) (L' := [some (.inl p0), some (.inl p1)]) (S' := []) (M' := M) rfl rfl rfl rfl ?_
      refine zg_iconst (v := 0) dX4_isBlockOfFile_18 rfl ?_
      exact zg_iret dX4_isBlockOfFile_19 rfl rfl ⟨by decide, by decide⟩ rfl
  · refine zg_st (pc' := 18) (L' := [some (.inl p0), some (.inl p1)]) (S' := []) (M' := M) rfl rfl rfl rfl ?_
    refine zg_iconst (v := 0) dX4_isBlockOfFile_18 rfl ?_
    exact zg_iret dX4_isBlockOfFile_19 rfl rfl ⟨by decide, by decide⟩ rfl
theorem dX4_blockPointer_0 : decode cX4_blockPointer 0 = .ok (.iload_n 0, 1) := by decide +kernel
theorem dX4_blockPointer_1 : decode cX4_blockPointer 1 = .ok (.bipush 12, 2) := by decide +kernel
theorem dX4_blockPointer_3 : decode cX4_blockPointer 3 = .ok (.imul, 1) := by decide +kernel
theorem dX4_blockPointer_4 : decode cX4_blockPointer 4 = .ok (.iload_n 1, 1) := by decide +kernel
theorem dX4_blockPointer_5 : decode cX4_blockPointer 5 = .ok (.iadd, 1) := by decide +kernel
theorem dX4_blockPointer_6 : decode cX4_blockPointer 6 = .ok (.ireturn, 1) := by decide +kernel
def f_X4_blockPointer (p0 : Int32) (p1 : Int32) : Int32 :=
  ((p0 * 12) + p1)
set_option maxRecDepth 100000 in
set_option maxHeartbeats 4000000 in
theorem k_X4_blockPointer (q : ZQ) (p0 : Int32) (p1 : Int32) (M : Mem) : Zc (zgX q) mX4_blockPointer 0 0 [.inl p0, .inl p1] M (wI M (f_X4_blockPointer p0 p1)) := by
  refine Zc.of (by decide) zi_X4_blockPointer.1 (Nat.le_of_ble_eq_true rfl) rfl ?_
  show Zg _ _ _ _ _ _ (zlet (f_X4_blockPointer p0 p1) (wI M)) _ _ _ _
  unfold f_X4_blockPointer
  refine zg_iload_n (x := p0) dX4_blockPointer_0 rfl ?_
  refine zg_bipush (v := 12) dX4_blockPointer_1 rfl ?_
  refine zg_imul dX4_blockPointer_3 ?_
  refine zg_iload_n (x := p1) dX4_blockPointer_4 rfl ?_
  refine zg_iadd dX4_blockPointer_5 ?_
  exact zg_iret dX4_blockPointer_6 rfl rfl ⟨by decide, by decide⟩ rfl
theorem dX4_isBlockPointer_0 : decode cX4_isBlockPointer 0 = .ok (.iload_n 0, 1) := by decide +kernel
theorem dX4_isBlockPointer_1 : decode cX4_isBlockPointer 1 = .ok (.ifCond .lt 13, 3) := by decide +kernel
theorem dX4_isBlockPointer_4 : decode cX4_isBlockPointer 4 = .ok (.iload_n 0, 1) := by decide +kernel
theorem dX4_isBlockPointer_5 : decode cX4_isBlockPointer 5 = .ok (.bipush 48, 2) := by decide +kernel
theorem dX4_isBlockPointer_7 : decode cX4_isBlockPointer 7 = .ok (.if_icmp .ge 7, 3) := by decide +kernel
theorem dX4_isBlockPointer_10 : decode cX4_isBlockPointer 10 = .ok (.iconst 1, 1) := by decide +kernel
theorem dX4_isBlockPointer_11 : decode cX4_isBlockPointer 11 = .ok (.goto 4, 3) := by decide +kernel
theorem dX4_isBlockPointer_14 : decode cX4_isBlockPointer 14 = .ok (.iconst 0, 1) := by decide +kernel
theorem dX4_isBlockPointer_15 : decode cX4_isBlockPointer 15 = .ok (.ireturn, 1) := by decide +kernel
def f_X4_isBlockPointer (p0 : Int32) : Bool :=
  if p0 < 0 then false
  else if 48 ≤ p0 then false
  else true
set_option maxRecDepth 100000 in
set_option maxHeartbeats 4000000 in
theorem k_X4_isBlockPointer (q : ZQ) (p0 : Int32) (M : Mem) : Zc (zgX q) mX4_isBlockPointer 0 0 [.inl p0] M (wB M (f_X4_isBlockPointer p0)) := by
  refine Zc.of (by decide) zi_X4_isBlockPointer.1 (Nat.le_of_ble_eq_true rfl) rfl ?_
  show Zg _ _ _ _ _ _ (zlet (f_X4_isBlockPointer p0) (wB M)) _ _ _ _
  unfold f_X4_isBlockPointer
  refine zg_iload_n (x := p0) dX4_isBlockPointer_0 rfl ?_
  refine zg_ifz (tgt := 14) dX4_isBlockPointer_1 rfl rfl (fun c1 => ?_) (fun c1 => ?_)
  · refine zg_st (pc' := 14) (L' := [some (.inl p0)]) (S' := []) (M' := M) rfl rfl rfl rfl ?_
    refine zg_iconst (v := 0) dX4_isBlockPointer_14 rfl ?_
    exact zg_iret dX4_isBlockPointer_15 rfl rfl ⟨by decide, by decide⟩ rfl
  · refine zg_st (pc' := 4) (L' := [some (.inl p0)]) (S' := []) (M' := M) rfl rfl rfl rfl ?_
    refine zg_iload_n (x := p0) dX4_isBlockPointer_4 rfl ?_
    refine zg_bipush (v := 48) dX4_isBlockPointer_5 rfl ?_
    refine zg_icmpz (tgt := 14) dX4_isBlockPointer_7 rfl rfl (fun c7 => ?_) (fun c7 => ?_)
    · refine zg_st (pc' := 14) (L' := [some (.inl p0)]) (S' := []) (M' := M) rfl rfl rfl rfl ?_
      refine zg_iconst (v := 0) dX4_isBlockPointer_14 rfl ?_
      exact zg_iret dX4_isBlockPointer_15 rfl rfl ⟨by decide, by decide⟩ rfl
    · refine zg_st (pc' := 10) (L' := [some (.inl p0)]) (S' := []) (M' := M) rfl rfl rfl rfl ?_
      refine zg_iconst (v := 1) dX4_isBlockPointer_10 rfl ?_
      refine zg_goto (tgt := 15) dX4_isBlockPointer_11 rfl ?_
      refine zg_st (pc' := 15) (L' := [some (.inl p0)]) (S' := [.inl 1]) (M' := M) rfl rfl rfl rfl ?_
      exact zg_iret dX4_isBlockPointer_15 rfl rfl ⟨by decide, by decide⟩ rfl
theorem dX4_filePointer_0 : decode cX4_filePointer 0 = .ok (.bipush 48, 2) := by decide +kernel
theorem dX4_filePointer_2 : decode cX4_filePointer 2 = .ok (.iload_n 0, 1) := by decide +kernel
theorem dX4_filePointer_3 : decode cX4_filePointer 3 = .ok (.iadd, 1) := by decide +kernel
theorem dX4_filePointer_4 : decode cX4_filePointer 4 = .ok (.ireturn, 1) := by decide +kernel
def f_X4_filePointer (p0 : Int32) : Int32 :=
  (48 + p0)
set_option maxRecDepth 100000 in
set_option maxHeartbeats 4000000 in
theorem k_X4_filePointer (q : ZQ) (p0 : Int32) (M : Mem) : Zc (zgX q) mX4_filePointer 0 0 [.inl p0] M (wI M (f_X4_filePointer p0)) := by
  refine Zc.of (by decide) zi_X4_filePointer.1 (Nat.le_of_ble_eq_true rfl) rfl ?_
  show Zg _ _ _ _ _ _ (zlet (f_X4_filePointer p0) (wI M)) _ _ _ _
  unfold f_X4_filePointer
  refine zg_bipush (v := 48) dX4_filePointer_0 rfl ?_
  refine zg_iload_n (x := p0) dX4_filePointer_2 rfl ?_
  refine zg_iadd dX4_filePointer_3 ?_
  exact zg_iret dX4_filePointer_4 rfl rfl ⟨by decide, by decide⟩ rfl
theorem dX4_isPointer_0 : decode cX4_isPointer 0 = .ok (.iload_n 0, 1) := by decide +kernel
theorem dX4_isPointer_1 : decode cX4_isPointer 1 = .ok (.ifCond .lt 13, 3) := by decide +kernel
theorem dX4_isPointer_4 : decode cX4_isPointer 4 = .ok (.iload_n 0, 1) := by decide +kernel
theorem dX4_isPointer_5 : decode cX4_isPointer 5 = .ok (.bipush 53, 2) := by decide +kernel
theorem dX4_isPointer_7 : decode cX4_isPointer 7 = .ok (.if_icmp .ge 7, 3) := by decide +kernel
theorem dX4_isPointer_10 : decode cX4_isPointer 10 = .ok (.iconst 1, 1) := by decide +kernel
theorem dX4_isPointer_11 : decode cX4_isPointer 11 = .ok (.goto 4, 3) := by decide +kernel
theorem dX4_isPointer_14 : decode cX4_isPointer 14 = .ok (.iconst 0, 1) := by decide +kernel
theorem dX4_isPointer_15 : decode cX4_isPointer 15 = .ok (.ireturn, 1) := by decide +kernel
def f_X4_isPointer (p0 : Int32) : Bool :=
  if p0 < 0 then false
  else if 53 ≤ p0 then false
  else true
set_option maxRecDepth 100000 in
set_option maxHeartbeats 4000000 in
theorem k_X4_isPointer (q : ZQ) (p0 : Int32) (M : Mem) : Zc (zgX q) mX4_isPointer 0 0 [.inl p0] M (wB M (f_X4_isPointer p0)) := by
  refine Zc.of (by decide) zi_X4_isPointer.1 (Nat.le_of_ble_eq_true rfl) rfl ?_
  show Zg _ _ _ _ _ _ (zlet (f_X4_isPointer p0) (wB M)) _ _ _ _
  unfold f_X4_isPointer
  refine zg_iload_n (x := p0) dX4_isPointer_0 rfl ?_
  refine zg_ifz (tgt := 14) dX4_isPointer_1 rfl rfl (fun c1 => ?_) (fun c1 => ?_)
  · refine zg_st (pc' := 14) (L' := [some (.inl p0)]) (S' := []) (M' := M) rfl rfl rfl rfl ?_
    refine zg_iconst (v := 0) dX4_isPointer_14 rfl ?_
    exact zg_iret dX4_isPointer_15 rfl rfl ⟨by decide, by decide⟩ rfl
  · refine zg_st (pc' := 4) (L' := [some (.inl p0)]) (S' := []) (M' := M) rfl rfl rfl rfl ?_
    refine zg_iload_n (x := p0) dX4_isPointer_4 rfl ?_
    refine zg_bipush (v := 53) dX4_isPointer_5 rfl ?_
    refine zg_icmpz (tgt := 14) dX4_isPointer_7 rfl rfl (fun c7 => ?_) (fun c7 => ?_)
    · refine zg_st (pc' := 14) (L' := [some (.inl p0)]) (S' := []) (M' := M) rfl rfl rfl rfl ?_
      refine zg_iconst (v := 0) dX4_isPointer_14 rfl ?_
      exact zg_iret dX4_isPointer_15 rfl rfl ⟨by decide, by decide⟩ rfl
    · refine zg_st (pc' := 10) (L' := [some (.inl p0)]) (S' := []) (M' := M) rfl rfl rfl rfl ?_
      refine zg_iconst (v := 1) dX4_isPointer_10 rfl ?_
      refine zg_goto (tgt := 15) dX4_isPointer_11 rfl ?_
      refine zg_st (pc' := 15) (L' := [some (.inl p0)]) (S' := [.inl 1]) (M' := M) rfl rfl rfl rfl ?_
      exact zg_iret dX4_isPointer_15 rfl rfl ⟨by decide, by decide⟩ rfl
theorem dX4_isCellOnSide_0 : decode cX4_isCellOnSide 0 = .ok (.iload_n 0, 1) := by decide +kernel
theorem dX4_isCellOnSide_1 : decode cX4_isCellOnSide 1 = .ok (.ifCond .lt 22, 3) := by decide +kernel
theorem dX4_isCellOnSide_4 : decode cX4_isCellOnSide 4 = .ok (.iload_n 0, 1) := by decide +kernel
theorem dX4_isCellOnSide_5 : decode cX4_isCellOnSide 5 = .ok (.bipush 120, 2) := by decide +kernel
theorem dX4_isCellOnSide_7 : decode cX4_isCellOnSide 7 = .ok (.if_icmp .ge 16, 3) := by decide +kernel
theorem dX4_isCellOnSide_10 : decode cX4_isCellOnSide 10 = .ok (.iload_n 1, 1) := by decide +kernel
theorem dX4_isCellOnSide_11 : decode cX4_isCellOnSide 11 = .ok (.ifCond .lt 12, 3) := by decide +kernel
theorem dX4_isCellOnSide_14 : decode cX4_isCellOnSide 14 = .ok (.iload_n 1, 1) := by decide +kernel
theorem dX4_isCellOnSide_15 : decode cX4_isCellOnSide 15 = .ok (.iconst 2, 1) := by decide +kernel
theorem dX4_isCellOnSide_16 : decode cX4_isCellOnSide 16 = .ok (.if_icmp .ge 7, 3) := by decide +kernel
theorem dX4_isCellOnSide_19 : decode cX4_isCellOnSide 19 = .ok (.iconst 1, 1) := by decide +kernel
theorem dX4_isCellOnSide_20 : decode cX4_isCellOnSide 20 = .ok (.goto 4, 3) := by decide +kernel
theorem dX4_isCellOnSide_23 : decode cX4_isCellOnSide 23 = .ok (.iconst 0, 1) := by decide +kernel
theorem dX4_isCellOnSide_24 : decode cX4_isCellOnSide 24 = .ok (.ireturn, 1) := by decide +kernel
def f_X4_isCellOnSide (p0 : Int32) (p1 : Int32) : Bool :=
  if p0 < 0 then false
  else if 120 ≤ p0 then false
  else if p1 < 0 then false
  else if 2 ≤ p1 then false
  else true
set_option maxRecDepth 100000 in
set_option maxHeartbeats 4000000 in
theorem k_X4_isCellOnSide (q : ZQ) (p0 : Int32) (p1 : Int32) (M : Mem) : Zc (zgX q) mX4_isCellOnSide 0 0 [.inl p0, .inl p1] M (wB M (f_X4_isCellOnSide p0 p1)) := by
  refine Zc.of (by decide) zi_X4_isCellOnSide.1 (Nat.le_of_ble_eq_true rfl) rfl ?_
  show Zg _ _ _ _ _ _ (zlet (f_X4_isCellOnSide p0 p1) (wB M)) _ _ _ _
  unfold f_X4_isCellOnSide
  refine zg_iload_n (x := p0) dX4_isCellOnSide_0 rfl ?_
  refine zg_ifz (tgt := 23) dX4_isCellOnSide_1 rfl rfl (fun c1 => ?_) (fun c1 => ?_)
  · refine zg_st (pc' := 23) (L' := [some (.inl p0), some (.inl p1)]) (S' := []) (M' := M) rfl rfl rfl rfl ?_
    refine zg_iconst (v := 0) dX4_isCellOnSide_23 rfl ?_
    exact zg_iret dX4_isCellOnSide_24 rfl rfl ⟨by decide, by decide⟩ rfl
  · refine zg_st (pc' := 4) (L' := [some (.inl p0), some (.inl p1)]) (S' := []) (M' := M) rfl rfl rfl rfl ?_
    refine zg_iload_n (x := p0) dX4_isCellOnSide_4 rfl ?_
    refine zg_bipush (v := 120) dX4_isCellOnSide_5 rfl ?_
    refine zg_icmpz (tgt := 23) dX4_isCellOnSide_7 rfl rfl (fun c7 => ?_) (fun c7 => ?_)
    · refine zg_st (pc' := 23) (L' := [some (.inl p0), some (.inl p1)]) (S' := []) (M' := M) rfl rfl rfl rfl ?_
      refine zg_iconst (v := 0) dX4_isCellOnSide_23 rfl ?_
      exact zg_iret dX4_isCellOnSide_24 rfl rfl ⟨by decide, by decide⟩ rfl
    · refine zg_st (pc' := 10) (L' := [some (.inl p0), some (.inl p1)]) (S' := []) (M' := M) rfl rfl rfl rfl ?_
      refine zg_iload_n (x := p1) dX4_isCellOnSide_10 rfl ?_
      refine zg_ifz (tgt := 23) dX4_isCellOnSide_11 rfl rfl (fun c11 => ?_) (fun c11 => ?_)
      · refine zg_st (pc' := 23) (L' := [some (.inl p0), some (.inl p1)]) (S' := []) (M' := M) rfl rfl rfl rfl ?_
        refine zg_iconst (v := 0) dX4_isCellOnSide_23 rfl ?_
        exact zg_iret dX4_isCellOnSide_24 rfl rfl ⟨by decide, by decide⟩ rfl
      · refine zg_st (pc' := 14) (L' := [some (.inl p0), some (.inl p1)]) (S' := []) (M' := M) rfl rfl rfl rfl ?_
        refine zg_iload_n (x := p1) dX4_isCellOnSide_14 rfl ?_
        refine zg_iconst (v := 2) dX4_isCellOnSide_15 rfl ?_
        refine zg_icmpz (tgt := 23) dX4_isCellOnSide_16 rfl rfl (fun c16 => ?_) (fun c16 => ?_)
        · refine zg_st (pc' := 23) (L' := [some (.inl p0), some (.inl p1)]) (S' := []) (M' := M) rfl rfl rfl rfl ?_
          refine zg_iconst (v := 0) dX4_isCellOnSide_23 rfl ?_
          exact zg_iret dX4_isCellOnSide_24 rfl rfl ⟨by decide, by decide⟩ rfl
        · refine zg_st (pc' := 19) (L' := [some (.inl p0), some (.inl p1)]) (S' := []) (M' := M) rfl rfl rfl rfl ?_
          refine zg_iconst (v := 1) dX4_isCellOnSide_19 rfl ?_
          refine zg_goto (tgt := 24) dX4_isCellOnSide_20 rfl ?_
          refine zg_st (pc' := 24) (L' := [some (.inl p0), some (.inl p1)]) (S' := [.inl 1]) (M' := M) rfl rfl rfl rfl ?_
          exact zg_iret dX4_isCellOnSide_24 rfl rfl ⟨by decide, by decide⟩ rfl
theorem dX4_mirrorOf_0 : decode cX4_mirrorOf 0 = .ok (.iload_n 0, 1) := by decide +kernel
theorem dX4_mirrorOf_1 : decode cX4_mirrorOf 1 = .ok (.bipush 40, 2) := by decide +kernel
theorem dX4_mirrorOf_3 : decode cX4_mirrorOf 3 = .ok (.idiv, 1) := by decide +kernel
theorem dX4_mirrorOf_4 : decode cX4_mirrorOf 4 = .ok (.ireturn, 1) := by decide +kernel
def f_X4_mirrorOf (p0 : Int32) : Int32 :=
  (p0 / 40)
set_option maxRecDepth 100000 in
set_option maxHeartbeats 4000000 in
theorem k_X4_mirrorOf (q : ZQ) (p0 : Int32) (M : Mem) : Zc (zgX q) mX4_mirrorOf 0 0 [.inl p0] M (wI M (f_X4_mirrorOf p0)) := by
  refine Zc.of (by decide) zi_X4_mirrorOf.1 (Nat.le_of_ble_eq_true rfl) rfl ?_
  show Zg _ _ _ _ _ _ (zlet (f_X4_mirrorOf p0) (wI M)) _ _ _ _
  unfold f_X4_mirrorOf
  refine zg_iload_n (x := p0) dX4_mirrorOf_0 rfl ?_
  refine zg_bipush (v := 40) dX4_mirrorOf_1 rfl ?_
  refine zg_idiv dX4_mirrorOf_3 (by decide) ?_
  exact zg_iret dX4_mirrorOf_4 rfl rfl ⟨by decide, by decide⟩ rfl
theorem dX4_isSideOfMirror_0 : decode cX4_isSideOfMirror 0 = .ok (.iload_n 0, 1) := by decide +kernel
theorem dX4_isSideOfMirror_1 : decode cX4_isSideOfMirror 1 = .ok (.ifCond .lt 21, 3) := by decide +kernel
theorem dX4_isSideOfMirror_4 : decode cX4_isSideOfMirror 4 = .ok (.iload_n 0, 1) := by decide +kernel
theorem dX4_isSideOfMirror_5 : decode cX4_isSideOfMirror 5 = .ok (.iconst 3, 1) := by decide +kernel
theorem dX4_isSideOfMirror_6 : decode cX4_isSideOfMirror 6 = .ok (.if_icmp .ge 16, 3) := by decide +kernel
theorem dX4_isSideOfMirror_9 : decode cX4_isSideOfMirror 9 = .ok (.iload_n 1, 1) := by decide +kernel
theorem dX4_isSideOfMirror_10 : decode cX4_isSideOfMirror 10 = .ok (.ifCond .lt 12, 3) := by decide +kernel
theorem dX4_isSideOfMirror_13 : decode cX4_isSideOfMirror 13 = .ok (.iload_n 1, 1) := by decide +kernel
theorem dX4_isSideOfMirror_14 : decode cX4_isSideOfMirror 14 = .ok (.iconst 2, 1) := by decide +kernel
theorem dX4_isSideOfMirror_15 : decode cX4_isSideOfMirror 15 = .ok (.if_icmp .ge 7, 3) := by decide +kernel
theorem dX4_isSideOfMirror_18 : decode cX4_isSideOfMirror 18 = .ok (.iconst 1, 1) := by decide +kernel
theorem dX4_isSideOfMirror_19 : decode cX4_isSideOfMirror 19 = .ok (.goto 4, 3) := by decide +kernel
theorem dX4_isSideOfMirror_22 : decode cX4_isSideOfMirror 22 = .ok (.iconst 0, 1) := by decide +kernel
theorem dX4_isSideOfMirror_23 : decode cX4_isSideOfMirror 23 = .ok (.ireturn, 1) := by decide +kernel
def f_X4_isSideOfMirror (p0 : Int32) (p1 : Int32) : Bool :=
  if p0 < 0 then false
  else if 3 ≤ p0 then false
  else if p1 < 0 then false
  else if 2 ≤ p1 then false
  else true
set_option maxRecDepth 100000 in
set_option maxHeartbeats 4000000 in
theorem k_X4_isSideOfMirror (q : ZQ) (p0 : Int32) (p1 : Int32) (M : Mem) : Zc (zgX q) mX4_isSideOfMirror 0 0 [.inl p0, .inl p1] M (wB M (f_X4_isSideOfMirror p0 p1)) := by
  refine Zc.of (by decide) zi_X4_isSideOfMirror.1 (Nat.le_of_ble_eq_true rfl) rfl ?_
  show Zg _ _ _ _ _ _ (zlet (f_X4_isSideOfMirror p0 p1) (wB M)) _ _ _ _
  unfold f_X4_isSideOfMirror
  refine zg_iload_n (x := p0) dX4_isSideOfMirror_0 rfl ?_
  refine zg_ifz (tgt := 22) dX4_isSideOfMirror_1 rfl rfl (fun c1 => ?_) (fun c1 => ?_)
  · refine zg_st (pc' := 22) (L' := [some (.inl p0), some (.inl p1)]) (S' := []) (M' := M) rfl rfl rfl rfl ?_
    refine zg_iconst (v := 0) dX4_isSideOfMirror_22 rfl ?_
    exact zg_iret dX4_isSideOfMirror_23 rfl rfl ⟨by decide, by decide⟩ rfl
  · refine zg_st (pc' := 4) (L' := [some (.inl p0), some (.inl p1)]) (S' := []) (M' := M) rfl rfl rfl rfl ?_
    refine zg_iload_n (x := p0) dX4_isSideOfMirror_4 rfl ?_
    refine zg_iconst (v := 3) dX4_isSideOfMirror_5 rfl ?_
    refine zg_icmpz (tgt := 22) dX4_isSideOfMirror_6 rfl rfl (fun c6 => ?_) (fun c6 => ?_)
    · refine zg_st (pc' := 22) (L' := [some (.inl p0), some (.inl p1)]) (S' := []) (M' := M) rfl rfl rfl rfl ?_
      refine zg_iconst (v := 0) dX4_isSideOfMirror_22 rfl ?_
      exact zg_iret dX4_isSideOfMirror_23 rfl rfl ⟨by decide, by decide⟩ rfl
    · refine zg_st (pc' := 9) (L' := [some (.inl p0), some (.inl p1)]) (S' := []) (M' := M) rfl rfl rfl rfl ?_
      refine zg_iload_n (x := p1) dX4_isSideOfMirror_9 rfl ?_
      refine zg_ifz (tgt := 22) dX4_isSideOfMirror_10 rfl rfl (fun c10 => ?_) (fun c10 => ?_)
      · refine zg_st (pc' := 22) (L' := [some (.inl p0), some (.inl p1)]) (S' := []) (M' := M) rfl rfl rfl rfl ?_
        refine zg_iconst (v := 0) dX4_isSideOfMirror_22 rfl ?_
        exact zg_iret dX4_isSideOfMirror_23 rfl rfl ⟨by decide, by decide⟩ rfl
      · refine zg_st (pc' := 13) (L' := [some (.inl p0), some (.inl p1)]) (S' := []) (M' := M) rfl rfl rfl rfl ?_
        refine zg_iload_n (x := p1) dX4_isSideOfMirror_13 rfl ?_
        refine zg_iconst (v := 2) dX4_isSideOfMirror_14 rfl ?_
        refine zg_icmpz (tgt := 22) dX4_isSideOfMirror_15 rfl rfl (fun c15 => ?_) (fun c15 => ?_)
        · refine zg_st (pc' := 22) (L' := [some (.inl p0), some (.inl p1)]) (S' := []) (M' := M) rfl rfl rfl rfl ?_
          refine zg_iconst (v := 0) dX4_isSideOfMirror_22 rfl ?_
          exact zg_iret dX4_isSideOfMirror_23 rfl rfl ⟨by decide, by decide⟩ rfl
        · refine zg_st (pc' := 18) (L' := [some (.inl p0), some (.inl p1)]) (S' := []) (M' := M) rfl rfl rfl rfl ?_
          refine zg_iconst (v := 1) dX4_isSideOfMirror_18 rfl ?_
          refine zg_goto (tgt := 23) dX4_isSideOfMirror_19 rfl ?_
          refine zg_st (pc' := 23) (L' := [some (.inl p0), some (.inl p1)]) (S' := [.inl 1]) (M' := M) rfl rfl rfl rfl ?_
          exact zg_iret dX4_isSideOfMirror_23 rfl rfl ⟨by decide, by decide⟩ rfl
theorem dX4_placeNumber_0 : decode cX4_placeNumber 0 = .ok (.iload_n 0, 1) := by decide +kernel
theorem dX4_placeNumber_1 : decode cX4_placeNumber 1 = .ok (.bipush 40, 2) := by decide +kernel
theorem dX4_placeNumber_3 : decode cX4_placeNumber 3 = .ok (.imul, 1) := by decide +kernel
theorem dX4_placeNumber_4 : decode cX4_placeNumber 4 = .ok (.iload_n 1, 1) := by decide +kernel
theorem dX4_placeNumber_5 : decode cX4_placeNumber 5 = .ok (.iadd, 1) := by decide +kernel
theorem dX4_placeNumber_6 : decode cX4_placeNumber 6 = .ok (.ireturn, 1) := by decide +kernel
def f_X4_placeNumber (p0 : Int32) (p1 : Int32) : Int32 :=
  ((p0 * 40) + p1)
set_option maxRecDepth 100000 in
set_option maxHeartbeats 4000000 in
theorem k_X4_placeNumber (q : ZQ) (p0 : Int32) (p1 : Int32) (M : Mem) : Zc (zgX q) mX4_placeNumber 0 0 [.inl p0, .inl p1] M (wI M (f_X4_placeNumber p0 p1)) := by
  refine Zc.of (by decide) zi_X4_placeNumber.1 (Nat.le_of_ble_eq_true rfl) rfl ?_
  show Zg _ _ _ _ _ _ (zlet (f_X4_placeNumber p0 p1) (wI M)) _ _ _ _
  unfold f_X4_placeNumber
  refine zg_iload_n (x := p0) dX4_placeNumber_0 rfl ?_
  refine zg_bipush (v := 40) dX4_placeNumber_1 rfl ?_
  refine zg_imul dX4_placeNumber_3 ?_
  refine zg_iload_n (x := p1) dX4_placeNumber_4 rfl ?_
  refine zg_iadd dX4_placeNumber_5 ?_
  exact zg_iret dX4_placeNumber_6 rfl rfl ⟨by decide, by decide⟩ rfl
theorem dX4_isPlaceNumber_0 : decode cX4_isPlaceNumber 0 = .ok (.iload_n 0, 1) := by decide +kernel
theorem dX4_isPlaceNumber_1 : decode cX4_isPlaceNumber 1 = .ok (.ifCond .lt 13, 3) := by decide +kernel
theorem dX4_isPlaceNumber_4 : decode cX4_isPlaceNumber 4 = .ok (.iload_n 0, 1) := by decide +kernel
theorem dX4_isPlaceNumber_5 : decode cX4_isPlaceNumber 5 = .ok (.bipush 120, 2) := by decide +kernel
theorem dX4_isPlaceNumber_7 : decode cX4_isPlaceNumber 7 = .ok (.if_icmp .ge 7, 3) := by decide +kernel
theorem dX4_isPlaceNumber_10 : decode cX4_isPlaceNumber 10 = .ok (.iconst 1, 1) := by decide +kernel
theorem dX4_isPlaceNumber_11 : decode cX4_isPlaceNumber 11 = .ok (.goto 4, 3) := by decide +kernel
theorem dX4_isPlaceNumber_14 : decode cX4_isPlaceNumber 14 = .ok (.iconst 0, 1) := by decide +kernel
theorem dX4_isPlaceNumber_15 : decode cX4_isPlaceNumber 15 = .ok (.ireturn, 1) := by decide +kernel
def f_X4_isPlaceNumber (p0 : Int32) : Bool :=
  if p0 < 0 then false
  else if 120 ≤ p0 then false
  else true
set_option maxRecDepth 100000 in
set_option maxHeartbeats 4000000 in
theorem k_X4_isPlaceNumber (q : ZQ) (p0 : Int32) (M : Mem) : Zc (zgX q) mX4_isPlaceNumber 0 0 [.inl p0] M (wB M (f_X4_isPlaceNumber p0)) := by
  refine Zc.of (by decide) zi_X4_isPlaceNumber.1 (Nat.le_of_ble_eq_true rfl) rfl ?_
  show Zg _ _ _ _ _ _ (zlet (f_X4_isPlaceNumber p0) (wB M)) _ _ _ _
  unfold f_X4_isPlaceNumber
  refine zg_iload_n (x := p0) dX4_isPlaceNumber_0 rfl ?_
  refine zg_ifz (tgt := 14) dX4_isPlaceNumber_1 rfl rfl (fun c1 => ?_) (fun c1 => ?_)
  · refine zg_st (pc' := 14) (L' := [some (.inl p0)]) (S' := []) (M' := M) rfl rfl rfl rfl ?_
    refine zg_iconst (v := 0) dX4_isPlaceNumber_14 rfl ?_
    exact zg_iret dX4_isPlaceNumber_15 rfl rfl ⟨by decide, by decide⟩ rfl
  · refine zg_st (pc' := 4) (L' := [some (.inl p0)]) (S' := []) (M' := M) rfl rfl rfl rfl ?_
    refine zg_iload_n (x := p0) dX4_isPlaceNumber_4 rfl ?_
    refine zg_bipush (v := 120) dX4_isPlaceNumber_5 rfl ?_
    refine zg_icmpz (tgt := 14) dX4_isPlaceNumber_7 rfl rfl (fun c7 => ?_) (fun c7 => ?_)
    · refine zg_st (pc' := 14) (L' := [some (.inl p0)]) (S' := []) (M' := M) rfl rfl rfl rfl ?_
      refine zg_iconst (v := 0) dX4_isPlaceNumber_14 rfl ?_
      exact zg_iret dX4_isPlaceNumber_15 rfl rfl ⟨by decide, by decide⟩ rfl
    · refine zg_st (pc' := 10) (L' := [some (.inl p0)]) (S' := []) (M' := M) rfl rfl rfl rfl ?_
      refine zg_iconst (v := 1) dX4_isPlaceNumber_10 rfl ?_
      refine zg_goto (tgt := 15) dX4_isPlaceNumber_11 rfl ?_
      refine zg_st (pc' := 15) (L' := [some (.inl p0)]) (S' := [.inl 1]) (M' := M) rfl rfl rfl rfl ?_
      exact zg_iret dX4_isPlaceNumber_15 rfl rfl ⟨by decide, by decide⟩ rfl
theorem dX4_isMirror_0 : decode cX4_isMirror 0 = .ok (.iload_n 0, 1) := by decide +kernel
theorem dX4_isMirror_1 : decode cX4_isMirror 1 = .ok (.ifCond .lt 12, 3) := by decide +kernel
theorem dX4_isMirror_4 : decode cX4_isMirror 4 = .ok (.iload_n 0, 1) := by decide +kernel
theorem dX4_isMirror_5 : decode cX4_isMirror 5 = .ok (.iconst 3, 1) := by decide +kernel
theorem dX4_isMirror_6 : decode cX4_isMirror 6 = .ok (.if_icmp .ge 7, 3) := by decide +kernel
theorem dX4_isMirror_9 : decode cX4_isMirror 9 = .ok (.iconst 1, 1) := by decide +kernel
theorem dX4_isMirror_10 : decode cX4_isMirror 10 = .ok (.goto 4, 3) := by decide +kernel
theorem dX4_isMirror_13 : decode cX4_isMirror 13 = .ok (.iconst 0, 1) := by decide +kernel
theorem dX4_isMirror_14 : decode cX4_isMirror 14 = .ok (.ireturn, 1) := by decide +kernel
def f_X4_isMirror (p0 : Int32) : Bool :=
  if p0 < 0 then false
  else if 3 ≤ p0 then false
  else true
set_option maxRecDepth 100000 in
set_option maxHeartbeats 4000000 in
theorem k_X4_isMirror (q : ZQ) (p0 : Int32) (M : Mem) : Zc (zgX q) mX4_isMirror 0 0 [.inl p0] M (wB M (f_X4_isMirror p0)) := by
  refine Zc.of (by decide) zi_X4_isMirror.1 (Nat.le_of_ble_eq_true rfl) rfl ?_
  show Zg _ _ _ _ _ _ (zlet (f_X4_isMirror p0) (wB M)) _ _ _ _
  unfold f_X4_isMirror
  refine zg_iload_n (x := p0) dX4_isMirror_0 rfl ?_
  refine zg_ifz (tgt := 13) dX4_isMirror_1 rfl rfl (fun c1 => ?_) (fun c1 => ?_)
  · refine zg_st (pc' := 13) (L' := [some (.inl p0)]) (S' := []) (M' := M) rfl rfl rfl rfl ?_
    refine zg_iconst (v := 0) dX4_isMirror_13 rfl ?_
    exact zg_iret dX4_isMirror_14 rfl rfl ⟨by decide, by decide⟩ rfl
  · refine zg_st (pc' := 4) (L' := [some (.inl p0)]) (S' := []) (M' := M) rfl rfl rfl rfl ?_
    refine zg_iload_n (x := p0) dX4_isMirror_4 rfl ?_
    refine zg_iconst (v := 3) dX4_isMirror_5 rfl ?_
    refine zg_icmpz (tgt := 13) dX4_isMirror_6 rfl rfl (fun c6 => ?_) (fun c6 => ?_)
    · refine zg_st (pc' := 13) (L' := [some (.inl p0)]) (S' := []) (M' := M) rfl rfl rfl rfl ?_
      refine zg_iconst (v := 0) dX4_isMirror_13 rfl ?_
      exact zg_iret dX4_isMirror_14 rfl rfl ⟨by decide, by decide⟩ rfl
    · refine zg_st (pc' := 9) (L' := [some (.inl p0)]) (S' := []) (M' := M) rfl rfl rfl rfl ?_
      refine zg_iconst (v := 1) dX4_isMirror_9 rfl ?_
      refine zg_goto (tgt := 14) dX4_isMirror_10 rfl ?_
      refine zg_st (pc' := 14) (L' := [some (.inl p0)]) (S' := [.inl 1]) (M' := M) rfl rfl rfl rfl ?_
      exact zg_iret dX4_isMirror_14 rfl rfl ⟨by decide, by decide⟩ rfl
theorem dX4_isCell_0 : decode cX4_isCell 0 = .ok (.iload_n 0, 1) := by decide +kernel
theorem dX4_isCell_1 : decode cX4_isCell 1 = .ok (.ifCond .lt 13, 3) := by decide +kernel
theorem dX4_isCell_4 : decode cX4_isCell 4 = .ok (.iload_n 0, 1) := by decide +kernel
theorem dX4_isCell_5 : decode cX4_isCell 5 = .ok (.bipush 40, 2) := by decide +kernel
theorem dX4_isCell_7 : decode cX4_isCell 7 = .ok (.if_icmp .ge 7, 3) := by decide +kernel
theorem dX4_isCell_10 : decode cX4_isCell 10 = .ok (.iconst 1, 1) := by decide +kernel
theorem dX4_isCell_11 : decode cX4_isCell 11 = .ok (.goto 4, 3) := by decide +kernel
theorem dX4_isCell_14 : decode cX4_isCell 14 = .ok (.iconst 0, 1) := by decide +kernel
theorem dX4_isCell_15 : decode cX4_isCell 15 = .ok (.ireturn, 1) := by decide +kernel
def f_X4_isCell (p0 : Int32) : Bool :=
  if p0 < 0 then false
  else if 40 ≤ p0 then false
  else true
set_option maxRecDepth 100000 in
set_option maxHeartbeats 4000000 in
theorem k_X4_isCell (q : ZQ) (p0 : Int32) (M : Mem) : Zc (zgX q) mX4_isCell 0 0 [.inl p0] M (wB M (f_X4_isCell p0)) := by
  refine Zc.of (by decide) zi_X4_isCell.1 (Nat.le_of_ble_eq_true rfl) rfl ?_
  show Zg _ _ _ _ _ _ (zlet (f_X4_isCell p0) (wB M)) _ _ _ _
  unfold f_X4_isCell
  refine zg_iload_n (x := p0) dX4_isCell_0 rfl ?_
  refine zg_ifz (tgt := 14) dX4_isCell_1 rfl rfl (fun c1 => ?_) (fun c1 => ?_)
  · refine zg_st (pc' := 14) (L' := [some (.inl p0)]) (S' := []) (M' := M) rfl rfl rfl rfl ?_
    refine zg_iconst (v := 0) dX4_isCell_14 rfl ?_
    exact zg_iret dX4_isCell_15 rfl rfl ⟨by decide, by decide⟩ rfl
  · refine zg_st (pc' := 4) (L' := [some (.inl p0)]) (S' := []) (M' := M) rfl rfl rfl rfl ?_
    refine zg_iload_n (x := p0) dX4_isCell_4 rfl ?_
    refine zg_bipush (v := 40) dX4_isCell_5 rfl ?_
    refine zg_icmpz (tgt := 14) dX4_isCell_7 rfl rfl (fun c7 => ?_) (fun c7 => ?_)
    · refine zg_st (pc' := 14) (L' := [some (.inl p0)]) (S' := []) (M' := M) rfl rfl rfl rfl ?_
      refine zg_iconst (v := 0) dX4_isCell_14 rfl ?_
      exact zg_iret dX4_isCell_15 rfl rfl ⟨by decide, by decide⟩ rfl
    · refine zg_st (pc' := 10) (L' := [some (.inl p0)]) (S' := []) (M' := M) rfl rfl rfl rfl ?_
      refine zg_iconst (v := 1) dX4_isCell_10 rfl ?_
      refine zg_goto (tgt := 15) dX4_isCell_11 rfl ?_
      refine zg_st (pc' := 15) (L' := [some (.inl p0)]) (S' := [.inl 1]) (M' := M) rfl rfl rfl rfl ?_
      exact zg_iret dX4_isCell_15 rfl rfl ⟨by decide, by decide⟩ rfl
