theorem dX4_write_0 : decode cX4_write 0 = .ok (.iload_n 1, 1) := by decide +kernel
theorem dX4_write_1 : decode cX4_write 1 = .ok (.iload_n 2, 1) := by decide +kernel
theorem dX4_write_2 : decode cX4_write 2 = .ok (.invokestatic 51, 3) := by decide +kernel
theorem dX4_write_5 : decode cX4_write 5 = .ok (.ifCond .eq 15, 3) := by decide +kernel
theorem dX4_write_8 : decode cX4_write 8 = .ok (.iload_n 3, 1) := by decide +kernel
theorem dX4_write_9 : decode cX4_write 9 = .ok (.iconst 1, 1) := by decide +kernel
theorem dX4_write_10 : decode cX4_write 10 = .ok (.if_icmp .lt 10, 3) := by decide +kernel
theorem dX4_write_13 : decode cX4_write 13 = .ok (.iload_n 3, 1) := by decide +kernel
theorem dX4_write_14 : decode cX4_write 14 = .ok (.sipush 9999, 3) := by decide +kernel
theorem dX4_write_17 : decode cX4_write 17 = .ok (.if_icmp .le 13, 3) := by decide +kernel
theorem dX4_write_20 : decode cX4_write 20 = .ok (.new 55, 3) := by decide +kernel
theorem dX4_write_23 : decode cX4_write 23 = .ok (.dup, 1) := by decide +kernel
theorem dX4_write_24 : decode cX4_write 24 = .ok (.ldc 57, 2) := by decide +kernel
theorem dX4_write_26 : decode cX4_write 26 = .ok (.invokespecial 59, 3) := by decide +kernel
theorem dX4_write_29 : decode cX4_write 29 = .ok (.athrow, 1) := by decide +kernel
theorem dX4_write_30 : decode cX4_write 30 = .ok (.aload_n 0, 1) := by decide +kernel
theorem dX4_write_31 : decode cX4_write 31 = .ok (.iload_n 1, 1) := by decide +kernel
theorem dX4_write_32 : decode cX4_write 32 = .ok (.iload_n 2, 1) := by decide +kernel
theorem dX4_write_33 : decode cX4_write 33 = .ok (.invokevirtual 62, 3) := by decide +kernel
theorem dX4_write_36 : decode cX4_write 36 = .ok (.istore 4, 2) := by decide +kernel
theorem dX4_write_38 : decode cX4_write 38 = .ok (.aload_n 0, 1) := by decide +kernel
theorem dX4_write_39 : decode cX4_write 39 = .ok (.getfield 26, 3) := by decide +kernel
theorem dX4_write_42 : decode cX4_write 42 = .ok (.iload_n 1, 1) := by decide +kernel
theorem dX4_write_43 : decode cX4_write 43 = .ok (.iload_n 2, 1) := by decide +kernel
theorem dX4_write_44 : decode cX4_write 44 = .ok (.invokestatic 66, 3) := by decide +kernel
theorem dX4_write_47 : decode cX4_write 47 = .ok (.iload_n 3, 1) := by decide +kernel
theorem dX4_write_48 : decode cX4_write 48 = .ok (.invokevirtual 69, 3) := by decide +kernel
theorem dX4_write_51 : decode cX4_write 51 = .ok (.iload 4, 2) := by decide +kernel
theorem dX4_write_53 : decode cX4_write 53 = .ok (.ireturn, 1) := by decide +kernel
def f_X4_write (p1 : Int32) (p2 : Int32) (p3 : Int32) (M : Mem) : ((Int32 ⊕ String) × Mem) :=
  if (f_X4_isBlockOfFile p1 p2) then if p3 < 1 then (.inr "java/lang/IllegalArgumentException", M)
    else if p3 ≤ 9999 then zlet (f_X2_change (f_X4_blockPointer p1 p2) p3 M) (fun N1 =>
      (.inl (f_X4_valueNow p1 p2 M), N1))
    else (.inr "java/lang/IllegalArgumentException", M)
  else (.inr "java/lang/IllegalArgumentException", M)
set_option maxRecDepth 100000 in
set_option maxHeartbeats 4000000 in
theorem k_X4_write (q : ZQ) (hq : q.1.stackTraces = false) (p1 : Int32) (p2 : Int32) (p3 : Int32) (M : Mem) : Zc (zgX q) mX4_write 1 6 [.inr 0, .inl p1, .inl p2, .inl p3] M (xIM (f_X4_write p1 p2 p3 M)) := by
  refine Zc.of (by decide) zi_X4_write.1 (Nat.le_of_ble_eq_true rfl) rfl ?_
  show Zg _ _ _ _ _ _ (zlet (f_X4_write p1 p2 p3 M) xIM) _ _ _ _
  unfold f_X4_write
  refine zg_iload_n (x := p1) dX4_write_0 rfl ?_
  refine zg_iload_n (x := p2) dX4_write_1 rfl ?_
  refine zg_cS1 (As := [.inl p1, .inl p2]) (S := []) (v := bI ((f_X4_isBlockOfFile p1 p2))) dX4_write_2 zk_X4_51 (k_X4_isBlockOfFile q p1 p2 M) rfl ⟨by decide, by decide⟩ ⟨by decide, by decide⟩ rfl (Nat.le_of_ble_eq_true rfl) ?_
  refine zg_st (pc' := 5) (L' := [some (.inr 0), some (.inl p1), some (.inl p2), some (.inl p3), none]) (S' := [.inl (bI ((f_X4_isBlockOfFile p1 p2)))]) (M' := M) rfl rfl rfl rfl ?_
  refine zg_ifbe (tgt := 20) dX4_write_5 rfl (fun c5 => ?_) (fun c5 => ?_)
  · refine zg_st (pc' := 8) (L' := [some (.inr 0), some (.inl p1), some (.inl p2), some (.inl p3), none]) (S' := []) (M' := M) rfl rfl rfl rfl ?_
    refine zg_iload_n (x := p3) dX4_write_8 rfl ?_
    refine zg_iconst (v := 1) dX4_write_9 rfl ?_
    refine zg_icmpz (tgt := 20) dX4_write_10 rfl rfl (fun c10 => ?_) (fun c10 => ?_)
    · refine zg_st (pc' := 20) (L' := [some (.inr 0), some (.inl p1), some (.inl p2), some (.inl p3), none]) (S' := []) (M' := M) rfl rfl rfl rfl ?_
      exact zg_throw (text := "file, block or value is out of range") hq zt_55 rfl (by decide) dX4_write_20 dX4_write_23 dX4_write_24 dX4_write_26 dX4_write_29 (by decide) (Nat.le_of_ble_eq_true rfl) (by decide) (by decide) rfl
    · refine zg_st (pc' := 13) (L' := [some (.inr 0), some (.inl p1), some (.inl p2), some (.inl p3), none]) (S' := []) (M' := M) rfl rfl rfl rfl ?_
      refine zg_iload_n (x := p3) dX4_write_13 rfl ?_
      refine zg_sipush (v := 9999) dX4_write_14 rfl ?_
      refine zg_icmpz (tgt := 30) dX4_write_17 rfl rfl (fun c17 => ?_) (fun c17 => ?_)
      · refine zg_st (pc' := 30) (L' := [some (.inr 0), some (.inl p1), some (.inl p2), some (.inl p3), none]) (S' := []) (M' := M) rfl rfl rfl rfl ?_
        refine zg_aload_n (x := 0) dX4_write_30 rfl ?_
        refine zg_iload_n (x := p1) dX4_write_31 rfl ?_
        refine zg_iload_n (x := p2) dX4_write_32 rfl ?_
        refine zg_cV1 (As := [.inl p1, .inl p2]) (S := []) (v := (f_X4_valueNow p1 p2 M)) dX4_write_33 zk_X4_62 (k_X4_valueNow q p1 p2 M) rfl rfl ⟨by decide, by decide⟩ ⟨by decide, by decide⟩ rfl (Nat.le_of_ble_eq_true rfl) ?_
        refine zg_st (pc' := 36) (L' := [some (.inr 0), some (.inl p1), some (.inl p2), some (.inl p3), none]) (S' := [.inl (f_X4_valueNow p1 p2 M)]) (M' := M) rfl rfl rfl rfl ?_
        refine zg_istore dX4_write_36 (by decide) ?_
        refine zg_st (pc' := 38) (L' := [some (.inr 0), some (.inl p1), some (.inl p2), some (.inl p3), some (.inl (f_X4_valueNow p1 p2 M))]) (S' := []) (M' := M) rfl rfl rfl rfl ?_
        refine zg_aload_n (x := 0) dX4_write_38 rfl ?_
        refine zg_getf (v := .inr 3) dX4_write_39 zf_X4_26 rfl rfl rfl ?_
        refine zg_iload_n (x := p1) dX4_write_42 rfl ?_
        refine zg_iload_n (x := p2) dX4_write_43 rfl ?_
        refine zg_cS1 (As := [.inl p1, .inl p2]) (S := [.inr 3]) (v := (f_X4_blockPointer p1 p2)) dX4_write_44 zk_X4_66 (k_X4_blockPointer q p1 p2 M) rfl ⟨by decide, by decide⟩ ⟨by decide, by decide⟩ rfl (Nat.le_of_ble_eq_true rfl) ?_
        refine zg_st (pc' := 47) (L' := [some (.inr 0), some (.inl p1), some (.inl p2), some (.inl p3), some (.inl (f_X4_valueNow p1 p2 M))]) (S' := [.inl (f_X4_blockPointer p1 p2), .inr 3]) (M' := M) rfl rfl rfl rfl ?_
        refine zg_iload_n (x := p3) dX4_write_47 rfl ?_
        refine zg_cVV (As := [.inl (f_X4_blockPointer p1 p2), .inl p3]) (S := []) dX4_write_48 zk_X4_69 (k_X2_change q (f_X4_blockPointer p1 p2) p3 M) rfl rfl ⟨by decide, by decide⟩ ⟨by decide, by decide⟩ rfl (Nat.le_of_ble_eq_true rfl) (fun N1 e_N1 => ?_)
        try dsimp only
        refine zg_st (pc' := 51) (L' := [some (.inr 0), some (.inl p1), some (.inl p2), some (.inl p3), some (.inl (f_X4_valueNow p1 p2 M))]) (S' := []) (M' := N1) rfl rfl rfl rfl ?_
        refine zg_iload (x := (f_X4_valueNow p1 p2 M)) dX4_write_51 rfl ?_
        exact zg_iret dX4_write_53 rfl rfl ⟨by decide, by decide⟩ rfl
      · refine zg_st (pc' := 20) (L' := [some (.inr 0), some (.inl p1), some (.inl p2), some (.inl p3), none]) (S' := []) (M' := M) rfl rfl rfl rfl ?_
        exact zg_throw (text := "file, block or value is out of range") hq zt_55 rfl (by decide) dX4_write_20 dX4_write_23 dX4_write_24 dX4_write_26 dX4_write_29 (by decide) (Nat.le_of_ble_eq_true rfl) (by decide) (by decide) rfl
  · refine zg_st (pc' := 20) (L' := [some (.inr 0), some (.inl p1), some (.inl p2), some (.inl p3), none]) (S' := []) (M' := M) rfl rfl rfl rfl ?_
    exact zg_throw (text := "file, block or value is out of range") hq zt_55 rfl (by decide) dX4_write_20 dX4_write_23 dX4_write_24 dX4_write_26 dX4_write_29 (by decide) (Nat.le_of_ble_eq_true rfl) (by decide) (by decide) rfl
theorem dX4_punch_0 : decode cX4_punch 0 = .ok (.iload_n 1, 1) := by decide +kernel
theorem dX4_punch_1 : decode cX4_punch 1 = .ok (.iload_n 2, 1) := by decide +kernel
theorem dX4_punch_2 : decode cX4_punch 2 = .ok (.invokestatic 51, 3) := by decide +kernel
theorem dX4_punch_5 : decode cX4_punch 5 = .ok (.ifCond .eq 15, 3) := by decide +kernel
theorem dX4_punch_8 : decode cX4_punch 8 = .ok (.iload_n 3, 1) := by decide +kernel
theorem dX4_punch_9 : decode cX4_punch 9 = .ok (.invokestatic 73, 3) := by decide +kernel
theorem dX4_punch_12 : decode cX4_punch 12 = .ok (.ifCond .eq 8, 3) := by decide +kernel
theorem dX4_punch_15 : decode cX4_punch 15 = .ok (.iload_n 3, 1) := by decide +kernel
theorem dX4_punch_16 : decode cX4_punch 16 = .ok (.iload_n 2, 1) := by decide +kernel
theorem dX4_punch_17 : decode cX4_punch 17 = .ok (.if_icmp .ge 13, 3) := by decide +kernel
theorem dX4_punch_20 : decode cX4_punch 20 = .ok (.new 55, 3) := by decide +kernel
theorem dX4_punch_23 : decode cX4_punch 23 = .ok (.dup, 1) := by decide +kernel
theorem dX4_punch_24 : decode cX4_punch 24 = .ok (.ldc 77, 2) := by decide +kernel
theorem dX4_punch_26 : decode cX4_punch 26 = .ok (.invokespecial 59, 3) := by decide +kernel
theorem dX4_punch_29 : decode cX4_punch 29 = .ok (.athrow, 1) := by decide +kernel
theorem dX4_punch_30 : decode cX4_punch 30 = .ok (.iconst 0, 1) := by decide +kernel
theorem dX4_punch_31 : decode cX4_punch 31 = .ok (.istore 4, 2) := by decide +kernel
theorem dX4_punch_33 : decode cX4_punch 33 = .ok (.iload_n 2, 1) := by decide +kernel
theorem dX4_punch_34 : decode cX4_punch 34 = .ok (.istore 5, 2) := by decide +kernel
theorem dX4_punch_36 : decode cX4_punch 36 = .ok (.iload 5, 2) := by decide +kernel
theorem dX4_punch_38 : decode cX4_punch 38 = .ok (.iload_n 3, 1) := by decide +kernel
theorem dX4_punch_39 : decode cX4_punch 39 = .ok (.if_icmp .gt 36, 3) := by decide +kernel
theorem dX4_punch_42 : decode cX4_punch 42 = .ok (.aload_n 0, 1) := by decide +kernel
theorem dX4_punch_43 : decode cX4_punch 43 = .ok (.iload_n 1, 1) := by decide +kernel
theorem dX4_punch_44 : decode cX4_punch 44 = .ok (.iload 5, 2) := by decide +kernel
theorem dX4_punch_46 : decode cX4_punch 46 = .ok (.invokevirtual 62, 3) := by decide +kernel
theorem dX4_punch_49 : decode cX4_punch 49 = .ok (.ifCond .eq 6, 3) := by decide +kernel
theorem dX4_punch_52 : decode cX4_punch 52 = .ok (.iinc 4 1, 3) := by decide +kernel
theorem dX4_punch_55 : decode cX4_punch 55 = .ok (.aload_n 0, 1) := by decide +kernel
theorem dX4_punch_56 : decode cX4_punch 56 = .ok (.getfield 26, 3) := by decide +kernel
theorem dX4_punch_59 : decode cX4_punch 59 = .ok (.iload_n 1, 1) := by decide +kernel
theorem dX4_punch_60 : decode cX4_punch 60 = .ok (.iload 5, 2) := by decide +kernel
theorem dX4_punch_62 : decode cX4_punch 62 = .ok (.invokestatic 66, 3) := by decide +kernel
theorem dX4_punch_65 : decode cX4_punch 65 = .ok (.iconst 0, 1) := by decide +kernel
theorem dX4_punch_66 : decode cX4_punch 66 = .ok (.invokevirtual 69, 3) := by decide +kernel
theorem dX4_punch_69 : decode cX4_punch 69 = .ok (.iinc 5 1, 3) := by decide +kernel
theorem dX4_punch_72 : decode cX4_punch 72 = .ok (.goto (-36), 3) := by decide +kernel
theorem dX4_punch_75 : decode cX4_punch 75 = .ok (.iload 4, 2) := by decide +kernel
theorem dX4_punch_77 : decode cX4_punch 77 = .ok (.ireturn, 1) := by decide +kernel
def b_X4_punch_36 (x1 : Int32) (x3 : Int32) (rec : Int32 → Int32 → Mem → Int32 × Int32 × Mem) (v4 : Int32) (v5 : Int32) (N : Mem) : Int32 × Int32 × Mem :=
  if x3 < v5 then (v4, v5, N)
  else if (f_X4_valueNow x1 v5 N) = 0 then zlet (f_X2_change (f_X4_blockPointer x1 v5) 0 N) (fun N1 =>
    rec v4 (v5 + 1) N1)
  else zlet (f_X2_change (f_X4_blockPointer x1 v5) 0 N) (fun N2 =>
  rec (v4 + 1) (v5 + 1) N2)
def l_X4_punch_36 (x1 : Int32) (x3 : Int32) : Nat → Int32 → Int32 → Mem → Int32 × Int32 × Mem
  | 0, v4, v5, N => (v4, v5, N)
  | n + 1, v4, v5, N => b_X4_punch_36 x1 x3 (l_X4_punch_36 x1 x3 n) v4 v5 N
set_option maxRecDepth 100000 in
set_option maxHeartbeats 4000000 in
theorem kl_X4_punch_36 (q : ZQ) (hq : q.1.stackTraces = false) (x1 : Int32) (x3 : Int32) (hx3 : x3.toInt < 12) {K : Int32 × Int32 × Mem → ZR} (hx : ∀ e : Int32 × Int32 × Mem, Zg (zgX q) mX4_punch 1 6 0 0 (K e) 75 [some (.inr 0), some (.inl x1), none, some (.inl x3), some (.inl e.1), some (.inl e.2.1)] [] e.2.2) :
    ∀ (n : Nat) (v4 : Int32) (v5 : Int32) (N : Mem), ((x3 : Int32).toInt + 1 - (v5 : Int32).toInt).toNat < n → Zg (zgX q) mX4_punch 1 6 0 0 (zlet (l_X4_punch_36 x1 x3 n v4 v5 N) K) 36 [some (.inr 0), some (.inl x1), none, some (.inl x3), some (.inl v4), some (.inl v5)] [] N := by
  intro n
  induction n with
  | zero => intro v4 v5 N hm; exact absurd hm (Nat.not_lt_zero _)
  | succ n ih =>
    intro v4 v5 N hm
    show Zg _ _ _ _ _ _ (zlet (b_X4_punch_36 x1 x3 (l_X4_punch_36 x1 x3 n) v4 v5 N) K) _ _ _ _
    unfold b_X4_punch_36
    refine zg_iload (x := v5) dX4_punch_36 rfl ?_
    refine zg_iload_n (x := x3) dX4_punch_38 rfl ?_
    refine zg_icmpz (tgt := 75) dX4_punch_39 rfl rfl (fun c39 => ?_) (fun c39 => ?_)
    · refine zg_st (pc' := 75) (L' := [some (.inr 0), some (.inl x1), none, some (.inl x3), some (.inl v4), some (.inl v5)]) (S' := []) (M' := N) rfl rfl rfl rfl ?_
      refine zg_drop (L' := [some (.inr 0), some (.inl x1), none, some (.inl x3), some (.inl v4), some (.inl v5)]) ⟨rfl, rfl, rfl, rfl, rfl, trivial⟩ ?_
      exact hx (v4, v5, N)
    · refine zg_st (pc' := 42) (L' := [some (.inr 0), some (.inl x1), none, some (.inl x3), some (.inl v4), some (.inl v5)]) (S' := []) (M' := N) rfl rfl rfl rfl ?_
      refine zg_aload_n (x := 0) dX4_punch_42 rfl ?_
      refine zg_iload_n (x := x1) dX4_punch_43 rfl ?_
      refine zg_iload (x := v5) dX4_punch_44 rfl ?_
      refine zg_cV1 (As := [.inl x1, .inl v5]) (S := []) (v := (f_X4_valueNow x1 v5 N)) dX4_punch_46 zk_X4_62 (k_X4_valueNow q x1 v5 N) rfl rfl ⟨by decide, by decide⟩ ⟨by decide, by decide⟩ rfl (Nat.le_of_ble_eq_true rfl) ?_
      refine zg_st (pc' := 49) (L' := [some (.inr 0), some (.inl x1), none, some (.inl x3), some (.inl v4), some (.inl v5)]) (S' := [.inl (f_X4_valueNow x1 v5 N)]) (M' := N) rfl rfl rfl rfl ?_
      refine zg_ifz (tgt := 55) dX4_punch_49 rfl rfl (fun c49 => ?_) (fun c49 => ?_)
      · refine zg_st (pc' := 55) (L' := [some (.inr 0), some (.inl x1), none, some (.inl x3), some (.inl v4), some (.inl v5)]) (S' := []) (M' := N) rfl rfl rfl rfl ?_
        refine zg_aload_n (x := 0) dX4_punch_55 rfl ?_
        refine zg_getf (v := .inr 3) dX4_punch_56 zf_X4_26 rfl rfl rfl ?_
        refine zg_iload_n (x := x1) dX4_punch_59 rfl ?_
        refine zg_iload (x := v5) dX4_punch_60 rfl ?_
        refine zg_cS1 (As := [.inl x1, .inl v5]) (S := [.inr 3]) (v := (f_X4_blockPointer x1 v5)) dX4_punch_62 zk_X4_66 (k_X4_blockPointer q x1 v5 N) rfl ⟨by decide, by decide⟩ ⟨by decide, by decide⟩ rfl (Nat.le_of_ble_eq_true rfl) ?_
        refine zg_st (pc' := 65) (L' := [some (.inr 0), some (.inl x1), none, some (.inl x3), some (.inl v4), some (.inl v5)]) (S' := [.inl (f_X4_blockPointer x1 v5), .inr 3]) (M' := N) rfl rfl rfl rfl ?_
        refine zg_iconst (v := 0) dX4_punch_65 rfl ?_
        refine zg_cVV (As := [.inl (f_X4_blockPointer x1 v5), .inl 0]) (S := []) dX4_punch_66 zk_X4_69 (k_X2_change q (f_X4_blockPointer x1 v5) 0 N) rfl rfl ⟨by decide, by decide⟩ ⟨by decide, by decide⟩ rfl (Nat.le_of_ble_eq_true rfl) (fun N1 e_N1 => ?_)
        try dsimp only
        refine zg_st (pc' := 69) (L' := [some (.inr 0), some (.inl x1), none, some (.inl x3), some (.inl v4), some (.inl v5)]) (S' := []) (M' := N1) rfl rfl rfl rfl ?_
        refine zg_iinc (v := (v5 + 1)) dX4_punch_69 rfl (by decide) rfl ?_
        refine zg_st (pc' := 72) (L' := [some (.inr 0), some (.inl x1), none, some (.inl x3), some (.inl v4), some (.inl (v5 + 1))]) (S' := []) (M' := N1) rfl rfl rfl rfl ?_
        refine zg_goto (tgt := 36) dX4_punch_72 rfl ?_
        refine zg_st (pc' := 36) (L' := [some (.inr 0), some (.inl x1), none, some (.inl x3), some (.inl v4), some (.inl (v5 + 1))]) (S' := []) (M' := N1) rfl rfl rfl rfl ?_
        refine zg_drop (L' := [some (.inr 0), some (.inl x1), none, some (.inl x3), some (.inl v4), some (.inl (v5 + 1))]) ⟨rfl, rfl, rfl, rfl, rfl, trivial⟩ ?_
        exact ih v4 (v5 + 1) N1 (z_upe c39 (by omega) hm)
      · refine zg_st (pc' := 52) (L' := [some (.inr 0), some (.inl x1), none, some (.inl x3), some (.inl v4), some (.inl v5)]) (S' := []) (M' := N) rfl rfl rfl rfl ?_
        refine zg_iinc (v := (v4 + 1)) dX4_punch_52 rfl (by decide) rfl ?_
        refine zg_st (pc' := 55) (L' := [some (.inr 0), some (.inl x1), none, some (.inl x3), some (.inl (v4 + 1)), some (.inl v5)]) (S' := []) (M' := N) rfl rfl rfl rfl ?_
        refine zg_aload_n (x := 0) dX4_punch_55 rfl ?_
        refine zg_getf (v := .inr 3) dX4_punch_56 zf_X4_26 rfl rfl rfl ?_
        refine zg_iload_n (x := x1) dX4_punch_59 rfl ?_
        refine zg_iload (x := v5) dX4_punch_60 rfl ?_
        refine zg_cS1 (As := [.inl x1, .inl v5]) (S := [.inr 3]) (v := (f_X4_blockPointer x1 v5)) dX4_punch_62 zk_X4_66 (k_X4_blockPointer q x1 v5 N) rfl ⟨by decide, by decide⟩ ⟨by decide, by decide⟩ rfl (Nat.le_of_ble_eq_true rfl) ?_
        refine zg_st (pc' := 65) (L' := [some (.inr 0), some (.inl x1), none, some (.inl x3), some (.inl (v4 + 1)), some (.inl v5)]) (S' := [.inl (f_X4_blockPointer x1 v5), .inr 3]) (M' := N) rfl rfl rfl rfl ?_
        refine zg_iconst (v := 0) dX4_punch_65 rfl ?_
        refine zg_cVV (As := [.inl (f_X4_blockPointer x1 v5), .inl 0]) (S := []) dX4_punch_66 zk_X4_69 (k_X2_change q (f_X4_blockPointer x1 v5) 0 N) rfl rfl ⟨by decide, by decide⟩ ⟨by decide, by decide⟩ rfl (Nat.le_of_ble_eq_true rfl) (fun N2 e_N2 => ?_)
        try dsimp only
        refine zg_st (pc' := 69) (L' := [some (.inr 0), some (.inl x1), none, some (.inl x3), some (.inl (v4 + 1)), some (.inl v5)]) (S' := []) (M' := N2) rfl rfl rfl rfl ?_
        refine zg_iinc (v := (v5 + 1)) dX4_punch_69 rfl (by decide) rfl ?_
        refine zg_st (pc' := 72) (L' := [some (.inr 0), some (.inl x1), none, some (.inl x3), some (.inl (v4 + 1)), some (.inl (v5 + 1))]) (S' := []) (M' := N2) rfl rfl rfl rfl ?_
        refine zg_goto (tgt := 36) dX4_punch_72 rfl ?_
        refine zg_st (pc' := 36) (L' := [some (.inr 0), some (.inl x1), none, some (.inl x3), some (.inl (v4 + 1)), some (.inl (v5 + 1))]) (S' := []) (M' := N2) rfl rfl rfl rfl ?_
        refine zg_drop (L' := [some (.inr 0), some (.inl x1), none, some (.inl x3), some (.inl (v4 + 1)), some (.inl (v5 + 1))]) ⟨rfl, rfl, rfl, rfl, rfl, trivial⟩ ?_
        exact ih (v4 + 1) (v5 + 1) N2 (z_upe c39 (by omega) hm)
def f_X4_punch (p1 : Int32) (p2 : Int32) (p3 : Int32) (M : Mem) : ((Int32 ⊕ String) × Mem) :=
  if (f_X4_isBlockOfFile p1 p2) then if (f_X4_isBlock p3) then if p2 ≤ p3 then zlet (l_X4_punch_36 p1 p3 (((p3 : Int32).toInt + 1 - (p2 : Int32).toInt).toNat + 1) 0 p2 M) (fun s3 =>
        (.inl s3.1, s3.2.2))
      else (.inr "java/lang/IllegalArgumentException", M)
    else (.inr "java/lang/IllegalArgumentException", M)
  else (.inr "java/lang/IllegalArgumentException", M)
set_option maxRecDepth 100000 in
set_option maxHeartbeats 4000000 in
theorem k_X4_punch (q : ZQ) (hq : q.1.stackTraces = false) (p1 : Int32) (p2 : Int32) (p3 : Int32) (M : Mem) : Zc (zgX q) mX4_punch 1 6 [.inr 0, .inl p1, .inl p2, .inl p3] M (xIM (f_X4_punch p1 p2 p3 M)) := by
  refine Zc.of (by decide) zi_X4_punch.1 (Nat.le_of_ble_eq_true rfl) rfl ?_
  show Zg _ _ _ _ _ _ (zlet (f_X4_punch p1 p2 p3 M) xIM) _ _ _ _
  unfold f_X4_punch
  refine zg_iload_n (x := p1) dX4_punch_0 rfl ?_
  refine zg_iload_n (x := p2) dX4_punch_1 rfl ?_
  refine zg_cS1 (As := [.inl p1, .inl p2]) (S := []) (v := bI ((f_X4_isBlockOfFile p1 p2))) dX4_punch_2 zk_X4_51 (k_X4_isBlockOfFile q p1 p2 M) rfl ⟨by decide, by decide⟩ ⟨by decide, by decide⟩ rfl (Nat.le_of_ble_eq_true rfl) ?_
  refine zg_st (pc' := 5) (L' := [some (.inr 0), some (.inl p1), some (.inl p2), some (.inl p3), none, none]) (S' := [.inl (bI ((f_X4_isBlockOfFile p1 p2)))]) (M' := M) rfl rfl rfl rfl ?_
  refine zg_ifbe (tgt := 20) dX4_punch_5 rfl (fun c5 => ?_) (fun c5 => ?_)
  · refine zg_st (pc' := 8) (L' := [some (.inr 0), some (.inl p1), some (.inl p2), some (.inl p3), none, none]) (S' := []) (M' := M) rfl rfl rfl rfl ?_
    refine zg_iload_n (x := p3) dX4_punch_8 rfl ?_
    refine zg_cS1 (As := [.inl p3]) (S := []) (v := bI ((f_X4_isBlock p3))) dX4_punch_9 zk_X4_73 (k_X4_isBlock q p3 M) rfl ⟨by decide, by decide⟩ ⟨by decide, by decide⟩ rfl (Nat.le_of_ble_eq_true rfl) ?_
    refine zg_st (pc' := 12) (L' := [some (.inr 0), some (.inl p1), some (.inl p2), some (.inl p3), none, none]) (S' := [.inl (bI ((f_X4_isBlock p3)))]) (M' := M) rfl rfl rfl rfl ?_
    refine zg_ifbe (tgt := 20) dX4_punch_12 rfl (fun c12 => ?_) (fun c12 => ?_)
    · refine zg_st (pc' := 15) (L' := [some (.inr 0), some (.inl p1), some (.inl p2), some (.inl p3), none, none]) (S' := []) (M' := M) rfl rfl rfl rfl ?_
      refine zg_iload_n (x := p3) dX4_punch_15 rfl ?_
      refine zg_iload_n (x := p2) dX4_punch_16 rfl ?_
      refine zg_icmpz (tgt := 30) dX4_punch_17 rfl rfl (fun c17 => ?_) (fun c17 => ?_)
      · refine zg_st (pc' := 30) (L' := [some (.inr 0), some (.inl p1), some (.inl p2), some (.inl p3), none, none]) (S' := []) (M' := M) rfl rfl rfl rfl ?_
        refine zg_iconst (v := 0) dX4_punch_30 rfl ?_
        refine zg_istore dX4_punch_31 (by decide) ?_
        refine zg_st (pc' := 33) (L' := [some (.inr 0), some (.inl p1), some (.inl p2), some (.inl p3), some (.inl 0), none]) (S' := []) (M' := M) rfl rfl rfl rfl ?_
        refine zg_iload_n (x := p2) dX4_punch_33 rfl ?_
        refine zg_istore dX4_punch_34 (by decide) ?_
        refine zg_st (pc' := 36) (L' := [some (.inr 0), some (.inl p1), some (.inl p2), some (.inl p3), some (.inl 0), some (.inl p2)]) (S' := []) (M' := M) rfl rfl rfl rfl ?_
        refine zg_asc ?_
        refine zg_drop (L' := [some (.inr 0), some (.inl p1), none, some (.inl p3), some (.inl 0), some (.inl p2)]) ⟨rfl, rfl, rfl, rfl, rfl, trivial⟩ ?_
        refine kl_X4_punch_36 q hq p1 p3  (by simp only [q_isFile, q_isBlock, q_isBlockOfFile, q_isMirror, q_isSideOfMirror, q_isCell, q_isPlaceNumber, q_isCellOnSide, q_isPointer, q_isBlockPointer, vp_in_iff, Int32.lt_iff_toInt_lt, Int32.le_iff_toInt_le, Int32.reduceToInt] at c5 c12 c17 ⊢; omega) (fun s3 => ?_) (((p3 : Int32).toInt + 1 - (p2 : Int32).toInt).toNat + 1) 0 p2 M (Nat.lt_succ_self _)
        try dsimp only [Sum.elim_inr]
        refine zg_st (pc' := 75) (L' := [some (.inr 0), some (.inl p1), none, some (.inl p3), some (.inl s3.1), some (.inl s3.2.1)]) (S' := []) (M' := s3.2.2) rfl rfl rfl rfl ?_
        refine zg_iload (x := s3.1) dX4_punch_75 rfl ?_
        exact zg_iret dX4_punch_77 rfl rfl ⟨by decide, by decide⟩ rfl
      · refine zg_st (pc' := 20) (L' := [some (.inr 0), some (.inl p1), some (.inl p2), some (.inl p3), none, none]) (S' := []) (M' := M) rfl rfl rfl rfl ?_
        exact zg_throw (text := "file, from or to is out of range") hq zt_55 rfl (by decide) dX4_punch_20 dX4_punch_23 dX4_punch_24 dX4_punch_26 dX4_punch_29 (by decide) (Nat.le_of_ble_eq_true rfl) (by decide) (by decide) rfl
    · refine zg_st (pc' := 20) (L' := [some (.inr 0), some (.inl p1), some (.inl p2), some (.inl p3), none, none]) (S' := []) (M' := M) rfl rfl rfl rfl ?_
      exact zg_throw (text := "file, from or to is out of range") hq zt_55 rfl (by decide) dX4_punch_20 dX4_punch_23 dX4_punch_24 dX4_punch_26 dX4_punch_29 (by decide) (Nat.le_of_ble_eq_true rfl) (by decide) (by decide) rfl
  · refine zg_st (pc' := 20) (L' := [some (.inr 0), some (.inl p1), some (.inl p2), some (.inl p3), none, none]) (S' := []) (M' := M) rfl rfl rfl rfl ?_
    exact zg_throw (text := "file, from or to is out of range") hq zt_55 rfl (by decide) dX4_punch_20 dX4_punch_23 dX4_punch_24 dX4_punch_26 dX4_punch_29 (by decide) (Nat.le_of_ble_eq_true rfl) (by decide) (by decide) rfl
theorem dX4_setCopies_0 : decode cX4_setCopies 0 = .ok (.iload_n 1, 1) := by decide +kernel
theorem dX4_setCopies_1 : decode cX4_setCopies 1 = .ok (.invokestatic 79, 3) := by decide +kernel
theorem dX4_setCopies_4 : decode cX4_setCopies 4 = .ok (.ifCond .eq 13, 3) := by decide +kernel
theorem dX4_setCopies_7 : decode cX4_setCopies 7 = .ok (.iload_n 2, 1) := by decide +kernel
theorem dX4_setCopies_8 : decode cX4_setCopies 8 = .ok (.iconst 1, 1) := by decide +kernel
theorem dX4_setCopies_9 : decode cX4_setCopies 9 = .ok (.if_icmp .lt 8, 3) := by decide +kernel
theorem dX4_setCopies_12 : decode cX4_setCopies 12 = .ok (.iload_n 2, 1) := by decide +kernel
theorem dX4_setCopies_13 : decode cX4_setCopies 13 = .ok (.iconst 2, 1) := by decide +kernel
theorem dX4_setCopies_14 : decode cX4_setCopies 14 = .ok (.if_icmp .le 13, 3) := by decide +kernel
theorem dX4_setCopies_17 : decode cX4_setCopies 17 = .ok (.new 55, 3) := by decide +kernel
theorem dX4_setCopies_20 : decode cX4_setCopies 20 = .ok (.dup, 1) := by decide +kernel
theorem dX4_setCopies_21 : decode cX4_setCopies 21 = .ok (.ldc 82, 2) := by decide +kernel
theorem dX4_setCopies_23 : decode cX4_setCopies 23 = .ok (.invokespecial 59, 3) := by decide +kernel
theorem dX4_setCopies_26 : decode cX4_setCopies 26 = .ok (.athrow, 1) := by decide +kernel
theorem dX4_setCopies_27 : decode cX4_setCopies 27 = .ok (.aload_n 0, 1) := by decide +kernel
theorem dX4_setCopies_28 : decode cX4_setCopies 28 = .ok (.getfield 37, 3) := by decide +kernel
theorem dX4_setCopies_31 : decode cX4_setCopies 31 = .ok (.iload_n 1, 1) := by decide +kernel
theorem dX4_setCopies_32 : decode cX4_setCopies 32 = .ok (.iaload, 1) := by decide +kernel
theorem dX4_setCopies_33 : decode cX4_setCopies 33 = .ok (.istore_n 3, 1) := by decide +kernel
theorem dX4_setCopies_34 : decode cX4_setCopies 34 = .ok (.aload_n 0, 1) := by decide +kernel
theorem dX4_setCopies_35 : decode cX4_setCopies 35 = .ok (.getfield 37, 3) := by decide +kernel
theorem dX4_setCopies_38 : decode cX4_setCopies 38 = .ok (.iload_n 1, 1) := by decide +kernel
theorem dX4_setCopies_39 : decode cX4_setCopies 39 = .ok (.iload_n 2, 1) := by decide +kernel
theorem dX4_setCopies_40 : decode cX4_setCopies 40 = .ok (.iastore, 1) := by decide +kernel
theorem dX4_setCopies_41 : decode cX4_setCopies 41 = .ok (.iload_n 3, 1) := by decide +kernel
theorem dX4_setCopies_42 : decode cX4_setCopies 42 = .ok (.ireturn, 1) := by decide +kernel
def f_X4_setCopies (p1 : Int32) (p2 : Int32) (M : Mem) : ((Int32 ⊕ String) × Mem) :=
  if (f_X4_isFile p1) then if p2 < 1 then (.inr "java/lang/IllegalArgumentException", M)
    else if p2 ≤ 2 then (.inl (M 5 p1.toNatClampNeg), (mup M 5 p1.toNatClampNeg p2))
    else (.inr "java/lang/IllegalArgumentException", M)
  else (.inr "java/lang/IllegalArgumentException", M)
set_option maxRecDepth 100000 in
set_option maxHeartbeats 4000000 in
theorem k_X4_setCopies (q : ZQ) (hq : q.1.stackTraces = false) (p1 : Int32) (p2 : Int32) (M : Mem) : Zc (zgX q) mX4_setCopies 1 6 [.inr 0, .inl p1, .inl p2] M (xIM (f_X4_setCopies p1 p2 M)) := by
  refine Zc.of (by decide) zi_X4_setCopies.1 (Nat.le_of_ble_eq_true rfl) rfl ?_
  show Zg _ _ _ _ _ _ (zlet (f_X4_setCopies p1 p2 M) xIM) _ _ _ _
  unfold f_X4_setCopies
  refine zg_iload_n (x := p1) dX4_setCopies_0 rfl ?_
  refine zg_cS1 (As := [.inl p1]) (S := []) (v := bI ((f_X4_isFile p1))) dX4_setCopies_1 zk_X4_79 (k_X4_isFile q p1 M) rfl ⟨by decide, by decide⟩ ⟨by decide, by decide⟩ rfl (Nat.le_of_ble_eq_true rfl) ?_
  refine zg_st (pc' := 4) (L' := [some (.inr 0), some (.inl p1), some (.inl p2), none]) (S' := [.inl (bI ((f_X4_isFile p1)))]) (M' := M) rfl rfl rfl rfl ?_
  refine zg_ifbe (tgt := 17) dX4_setCopies_4 rfl (fun c4 => ?_) (fun c4 => ?_)
  · refine zg_st (pc' := 7) (L' := [some (.inr 0), some (.inl p1), some (.inl p2), none]) (S' := []) (M' := M) rfl rfl rfl rfl ?_
    refine zg_iload_n (x := p2) dX4_setCopies_7 rfl ?_
    refine zg_iconst (v := 1) dX4_setCopies_8 rfl ?_
    refine zg_icmpz (tgt := 17) dX4_setCopies_9 rfl rfl (fun c9 => ?_) (fun c9 => ?_)
    · refine zg_st (pc' := 17) (L' := [some (.inr 0), some (.inl p1), some (.inl p2), none]) (S' := []) (M' := M) rfl rfl rfl rfl ?_
      exact zg_throw (text := "file or copies is out of range") hq zt_55 rfl (by decide) dX4_setCopies_17 dX4_setCopies_20 dX4_setCopies_21 dX4_setCopies_23 dX4_setCopies_26 (by decide) (Nat.le_of_ble_eq_true rfl) (by decide) (by decide) rfl
    · refine zg_st (pc' := 12) (L' := [some (.inr 0), some (.inl p1), some (.inl p2), none]) (S' := []) (M' := M) rfl rfl rfl rfl ?_
      refine zg_iload_n (x := p2) dX4_setCopies_12 rfl ?_
      refine zg_iconst (v := 2) dX4_setCopies_13 rfl ?_
      refine zg_icmpz (tgt := 27) dX4_setCopies_14 rfl rfl (fun c14 => ?_) (fun c14 => ?_)
      · refine zg_st (pc' := 27) (L' := [some (.inr 0), some (.inl p1), some (.inl p2), none]) (S' := []) (M' := M) rfl rfl rfl rfl ?_
        refine zg_aload_n (x := 0) dX4_setCopies_27 rfl ?_
        refine zg_getf (v := .inr 5) dX4_setCopies_28 zf_X4_37 rfl rfl rfl ?_
        refine zg_iload_n (x := p1) dX4_setCopies_31 rfl ?_
        refine zg_iald dX4_setCopies_32 rfl (by simp only [q_isFile, q_isBlock, q_isBlockOfFile, q_isMirror, q_isSideOfMirror, q_isCell, q_isPlaceNumber, q_isCellOnSide, q_isPointer, q_isBlockPointer, vp_in_iff, Int32.lt_iff_toInt_lt, Int32.le_iff_toInt_le, Int32.reduceToInt] at c4 c9 c14 ⊢; omega) ?_
        refine zg_istore_n dX4_setCopies_33 (by decide) ?_
        refine zg_st (pc' := 34) (L' := [some (.inr 0), some (.inl p1), some (.inl p2), some (.inl (M 5 p1.toNatClampNeg))]) (S' := []) (M' := M) rfl rfl rfl rfl ?_
        refine zg_aload_n (x := 0) dX4_setCopies_34 rfl ?_
        refine zg_getf (v := .inr 5) dX4_setCopies_35 zf_X4_37 rfl rfl rfl ?_
        refine zg_iload_n (x := p1) dX4_setCopies_38 rfl ?_
        refine zg_iload_n (x := p2) dX4_setCopies_39 rfl ?_
        refine zg_iast dX4_setCopies_40 rfl (by simp only [q_isFile, q_isBlock, q_isBlockOfFile, q_isMirror, q_isSideOfMirror, q_isCell, q_isPlaceNumber, q_isCellOnSide, q_isPointer, q_isBlockPointer, vp_in_iff, Int32.lt_iff_toInt_lt, Int32.le_iff_toInt_le, Int32.reduceToInt] at c4 c9 c14 ⊢; omega) ?_
        refine zg_iload_n (x := (M 5 p1.toNatClampNeg)) dX4_setCopies_41 rfl ?_
        exact zg_iret dX4_setCopies_42 rfl rfl ⟨by decide, by decide⟩ rfl
      · refine zg_st (pc' := 17) (L' := [some (.inr 0), some (.inl p1), some (.inl p2), none]) (S' := []) (M' := M) rfl rfl rfl rfl ?_
        exact zg_throw (text := "file or copies is out of range") hq zt_55 rfl (by decide) dX4_setCopies_17 dX4_setCopies_20 dX4_setCopies_21 dX4_setCopies_23 dX4_setCopies_26 (by decide) (Nat.le_of_ble_eq_true rfl) (by decide) (by decide) rfl
  · refine zg_st (pc' := 17) (L' := [some (.inr 0), some (.inl p1), some (.inl p2), none]) (S' := []) (M' := M) rfl rfl rfl rfl ?_
    exact zg_throw (text := "file or copies is out of range") hq zt_55 rfl (by decide) dX4_setCopies_17 dX4_setCopies_20 dX4_setCopies_21 dX4_setCopies_23 dX4_setCopies_26 (by decide) (Nat.le_of_ble_eq_true rfl) (by decide) (by decide) rfl
theorem dX4_read_0 : decode cX4_read 0 = .ok (.iload_n 1, 1) := by decide +kernel
theorem dX4_read_1 : decode cX4_read 1 = .ok (.iload_n 2, 1) := by decide +kernel
theorem dX4_read_2 : decode cX4_read 2 = .ok (.invokestatic 51, 3) := by decide +kernel
theorem dX4_read_5 : decode cX4_read 5 = .ok (.ifCond .ne 13, 3) := by decide +kernel
theorem dX4_read_8 : decode cX4_read 8 = .ok (.new 55, 3) := by decide +kernel
theorem dX4_read_11 : decode cX4_read 11 = .ok (.dup, 1) := by decide +kernel
theorem dX4_read_12 : decode cX4_read 12 = .ok (.ldc 84, 2) := by decide +kernel
theorem dX4_read_14 : decode cX4_read 14 = .ok (.invokespecial 59, 3) := by decide +kernel
theorem dX4_read_17 : decode cX4_read 17 = .ok (.athrow, 1) := by decide +kernel
theorem dX4_read_18 : decode cX4_read 18 = .ok (.iload_n 1, 1) := by decide +kernel
theorem dX4_read_19 : decode cX4_read 19 = .ok (.iload_n 2, 1) := by decide +kernel
theorem dX4_read_20 : decode cX4_read 20 = .ok (.invokestatic 66, 3) := by decide +kernel
theorem dX4_read_23 : decode cX4_read 23 = .ok (.istore_n 3, 1) := by decide +kernel
theorem dX4_read_24 : decode cX4_read 24 = .ok (.aload_n 0, 1) := by decide +kernel
theorem dX4_read_25 : decode cX4_read 25 = .ok (.getfield 26, 3) := by decide +kernel
theorem dX4_read_28 : decode cX4_read 28 = .ok (.iload_n 3, 1) := by decide +kernel
theorem dX4_read_29 : decode cX4_read 29 = .ok (.invokevirtual 86, 3) := by decide +kernel
theorem dX4_read_32 : decode cX4_read 32 = .ok (.ifCond .eq 12, 3) := by decide +kernel
theorem dX4_read_35 : decode cX4_read 35 = .ok (.aload_n 0, 1) := by decide +kernel
theorem dX4_read_36 : decode cX4_read 36 = .ok (.getfield 26, 3) := by decide +kernel
theorem dX4_read_39 : decode cX4_read 39 = .ok (.iload_n 3, 1) := by decide +kernel
theorem dX4_read_40 : decode cX4_read 40 = .ok (.invokevirtual 89, 3) := by decide +kernel
theorem dX4_read_43 : decode cX4_read 43 = .ok (.ireturn, 1) := by decide +kernel
theorem dX4_read_44 : decode cX4_read 44 = .ok (.iload_n 1, 1) := by decide +kernel
theorem dX4_read_45 : decode cX4_read 45 = .ok (.invokestatic 93, 3) := by decide +kernel
theorem dX4_read_48 : decode cX4_read 48 = .ok (.istore 4, 2) := by decide +kernel
theorem dX4_read_50 : decode cX4_read 50 = .ok (.aload_n 0, 1) := by decide +kernel
theorem dX4_read_51 : decode cX4_read 51 = .ok (.bipush 52, 2) := by decide +kernel
theorem dX4_read_53 : decode cX4_read 53 = .ok (.invokevirtual 96, 3) := by decide +kernel
theorem dX4_read_56 : decode cX4_read 56 = .ok (.ifCond .ne 20, 3) := by decide +kernel
theorem dX4_read_59 : decode cX4_read 59 = .ok (.aload_n 0, 1) := by decide +kernel
theorem dX4_read_60 : decode cX4_read 60 = .ok (.iload 4, 2) := by decide +kernel
theorem dX4_read_62 : decode cX4_read 62 = .ok (.invokevirtual 96, 3) := by decide +kernel
theorem dX4_read_65 : decode cX4_read 65 = .ok (.ifCond .ne 11, 3) := by decide +kernel
theorem dX4_read_68 : decode cX4_read 68 = .ok (.aload_n 0, 1) := by decide +kernel
theorem dX4_read_69 : decode cX4_read 69 = .ok (.iload_n 3, 1) := by decide +kernel
theorem dX4_read_70 : decode cX4_read 70 = .ok (.invokevirtual 96, 3) := by decide +kernel
theorem dX4_read_73 : decode cX4_read 73 = .ok (.ifCond .eq 13, 3) := by decide +kernel
theorem dX4_read_76 : decode cX4_read 76 = .ok (.new 99, 3) := by decide +kernel
theorem dX4_read_79 : decode cX4_read 79 = .ok (.dup, 1) := by decide +kernel
theorem dX4_read_80 : decode cX4_read 80 = .ok (.ldc 101, 2) := by decide +kernel
theorem dX4_read_82 : decode cX4_read 82 = .ok (.invokespecial 103, 3) := by decide +kernel
theorem dX4_read_85 : decode cX4_read 85 = .ok (.athrow, 1) := by decide +kernel
theorem dX4_read_86 : decode cX4_read 86 = .ok (.aload_n 0, 1) := by decide +kernel
theorem dX4_read_87 : decode cX4_read 87 = .ok (.dup, 1) := by decide +kernel
theorem dX4_read_88 : decode cX4_read 88 = .ok (.getfield 47, 3) := by decide +kernel
theorem dX4_read_91 : decode cX4_read 91 = .ok (.aload_n 0, 1) := by decide +kernel
theorem dX4_read_92 : decode cX4_read 92 = .ok (.bipush 52, 2) := by decide +kernel
theorem dX4_read_94 : decode cX4_read 94 = .ok (.invokevirtual 104, 3) := by decide +kernel
theorem dX4_read_97 : decode cX4_read 97 = .ok (.aload_n 0, 1) := by decide +kernel
theorem dX4_read_98 : decode cX4_read 98 = .ok (.iload 4, 2) := by decide +kernel
theorem dX4_read_100 : decode cX4_read 100 = .ok (.invokevirtual 104, 3) := by decide +kernel
theorem dX4_read_103 : decode cX4_read 103 = .ok (.iadd, 1) := by decide +kernel
theorem dX4_read_104 : decode cX4_read 104 = .ok (.aload_n 0, 1) := by decide +kernel
theorem dX4_read_105 : decode cX4_read 105 = .ok (.iload_n 3, 1) := by decide +kernel
theorem dX4_read_106 : decode cX4_read 106 = .ok (.invokevirtual 104, 3) := by decide +kernel
theorem dX4_read_109 : decode cX4_read 109 = .ok (.iadd, 1) := by decide +kernel
theorem dX4_read_110 : decode cX4_read 110 = .ok (.iadd, 1) := by decide +kernel
theorem dX4_read_111 : decode cX4_read 111 = .ok (.putfield 47, 3) := by decide +kernel
theorem dX4_read_114 : decode cX4_read 114 = .ok (.aload_n 0, 1) := by decide +kernel
theorem dX4_read_115 : decode cX4_read 115 = .ok (.getfield 19, 3) := by decide +kernel
theorem dX4_read_118 : decode cX4_read 118 = .ok (.iload_n 3, 1) := by decide +kernel
theorem dX4_read_119 : decode cX4_read 119 = .ok (.invokevirtual 107, 3) := by decide +kernel
theorem dX4_read_122 : decode cX4_read 122 = .ok (.ireturn, 1) := by decide +kernel
def f_X4_read (p1 : Int32) (p2 : Int32) (M : Mem) : ((Int32 ⊕ String) × Mem) :=
  if (f_X4_isBlockOfFile p1 p2) then if (f_X2_holds (f_X4_blockPointer p1 p2) M) then (.inl (f_X2_changeOf (f_X4_blockPointer p1 p2) M), M)
    else if (f_X4_isUnreadable 52 M) then (.inr "java/lang/IllegalStateException", M)
    else if (f_X4_isUnreadable (f_X4_filePointer p1) M) then (.inr "java/lang/IllegalStateException", M)
    else if (f_X4_isUnreadable (f_X4_blockPointer p1 p2) M) then (.inr "java/lang/IllegalStateException", M)
    else zlet (f_X4_healUpToGoodCell 52 M) (fun q1 =>
    zlet (f_X4_healUpToGoodCell (f_X4_filePointer p1) q1.2) (fun q2 =>
      zlet (f_X4_healUpToGoodCell (f_X4_blockPointer p1 p2) q2.2) (fun q3 =>
        (.inl (f_X3_valueOf (f_X4_blockPointer p1 p2) (mup q3.2 0 5 ((M 0 5) + ((q1.1 + q2.1) + q3.1)))), (mup q3.2 0 5 ((M 0 5) + ((q1.1 + q2.1) + q3.1)))))))
  else (.inr "java/lang/IllegalArgumentException", M)
set_option maxRecDepth 100000 in
set_option maxHeartbeats 4000000 in
theorem k_X4_read (q : ZQ) (hq : q.1.stackTraces = false) (p1 : Int32) (p2 : Int32) (M : Mem) : Zc (zgX q) mX4_read 1 6 [.inr 0, .inl p1, .inl p2] M (xIM (f_X4_read p1 p2 M)) := by
  refine Zc.of (by decide) zi_X4_read.1 (Nat.le_of_ble_eq_true rfl) rfl ?_
  show Zg _ _ _ _ _ _ (zlet (f_X4_read p1 p2 M) xIM) _ _ _ _
  unfold f_X4_read
  refine zg_iload_n (x := p1) dX4_read_0 rfl ?_
  refine zg_iload_n (x := p2) dX4_read_1 rfl ?_
  refine zg_cS1 (As := [.inl p1, .inl p2]) (S := []) (v := bI ((f_X4_isBlockOfFile p1 p2))) dX4_read_2 zk_X4_51 (k_X4_isBlockOfFile q p1 p2 M) rfl ⟨by decide, by decide⟩ ⟨by decide, by decide⟩ rfl (Nat.le_of_ble_eq_true rfl) ?_
  refine zg_st (pc' := 5) (L' := [some (.inr 0), some (.inl p1), some (.inl p2), none, none]) (S' := [.inl (bI ((f_X4_isBlockOfFile p1 p2)))]) (M' := M) rfl rfl rfl rfl ?_
  refine zg_ifbn (tgt := 18) dX4_read_5 rfl (fun c5 => ?_) (fun c5 => ?_)
  · refine zg_st (pc' := 18) (L' := [some (.inr 0), some (.inl p1), some (.inl p2), none, none]) (S' := []) (M' := M) rfl rfl rfl rfl ?_
    refine zg_iload_n (x := p1) dX4_read_18 rfl ?_
    refine zg_iload_n (x := p2) dX4_read_19 rfl ?_
    refine zg_cS1 (As := [.inl p1, .inl p2]) (S := []) (v := (f_X4_blockPointer p1 p2)) dX4_read_20 zk_X4_66 (k_X4_blockPointer q p1 p2 M) rfl ⟨by decide, by decide⟩ ⟨by decide, by decide⟩ rfl (Nat.le_of_ble_eq_true rfl) ?_
    refine zg_st (pc' := 23) (L' := [some (.inr 0), some (.inl p1), some (.inl p2), none, none]) (S' := [.inl (f_X4_blockPointer p1 p2)]) (M' := M) rfl rfl rfl rfl ?_
    refine zg_istore_n dX4_read_23 (by decide) ?_
    refine zg_st (pc' := 24) (L' := [some (.inr 0), some (.inl p1), some (.inl p2), some (.inl (f_X4_blockPointer p1 p2)), none]) (S' := []) (M' := M) rfl rfl rfl rfl ?_
    refine zg_aload_n (x := 0) dX4_read_24 rfl ?_
    refine zg_getf (v := .inr 3) dX4_read_25 zf_X4_26 rfl rfl rfl ?_
    refine zg_iload_n (x := (f_X4_blockPointer p1 p2)) dX4_read_28 rfl ?_
    refine zg_cV1 (As := [.inl (f_X4_blockPointer p1 p2)]) (S := []) (v := bI ((f_X2_holds (f_X4_blockPointer p1 p2) M))) dX4_read_29 zk_X4_86 (k_X2_holds q (f_X4_blockPointer p1 p2) M) rfl rfl ⟨by decide, by decide⟩ ⟨by decide, by decide⟩ rfl (Nat.le_of_ble_eq_true rfl) ?_
    refine zg_st (pc' := 32) (L' := [some (.inr 0), some (.inl p1), some (.inl p2), some (.inl (f_X4_blockPointer p1 p2)), none]) (S' := [.inl (bI ((f_X2_holds (f_X4_blockPointer p1 p2) M)))]) (M' := M) rfl rfl rfl rfl ?_
    refine zg_ifbe (tgt := 44) dX4_read_32 rfl (fun c32 => ?_) (fun c32 => ?_)
    · refine zg_st (pc' := 35) (L' := [some (.inr 0), some (.inl p1), some (.inl p2), some (.inl (f_X4_blockPointer p1 p2)), none]) (S' := []) (M' := M) rfl rfl rfl rfl ?_
      refine zg_aload_n (x := 0) dX4_read_35 rfl ?_
      refine zg_getf (v := .inr 3) dX4_read_36 zf_X4_26 rfl rfl rfl ?_
      refine zg_iload_n (x := (f_X4_blockPointer p1 p2)) dX4_read_39 rfl ?_
      refine zg_cV1 (As := [.inl (f_X4_blockPointer p1 p2)]) (S := []) (v := (f_X2_changeOf (f_X4_blockPointer p1 p2) M)) dX4_read_40 zk_X4_89 (k_X2_changeOf q (f_X4_blockPointer p1 p2) M) rfl rfl ⟨by decide, by decide⟩ ⟨by decide, by decide⟩ rfl (Nat.le_of_ble_eq_true rfl) ?_
      refine zg_st (pc' := 43) (L' := [some (.inr 0), some (.inl p1), some (.inl p2), some (.inl (f_X4_blockPointer p1 p2)), none]) (S' := [.inl (f_X2_changeOf (f_X4_blockPointer p1 p2) M)]) (M' := M) rfl rfl rfl rfl ?_
      exact zg_iret dX4_read_43 rfl rfl ⟨by decide, by decide⟩ rfl
    · refine zg_st (pc' := 44) (L' := [some (.inr 0), some (.inl p1), some (.inl p2), some (.inl (f_X4_blockPointer p1 p2)), none]) (S' := []) (M' := M) rfl rfl rfl rfl ?_
      refine zg_iload_n (x := p1) dX4_read_44 rfl ?_
      refine zg_cS1 (As := [.inl p1]) (S := []) (v := (f_X4_filePointer p1)) dX4_read_45 zk_X4_93 (k_X4_filePointer q p1 M) rfl ⟨by decide, by decide⟩ ⟨by decide, by decide⟩ rfl (Nat.le_of_ble_eq_true rfl) ?_
      refine zg_st (pc' := 48) (L' := [some (.inr 0), some (.inl p1), some (.inl p2), some (.inl (f_X4_blockPointer p1 p2)), none]) (S' := [.inl (f_X4_filePointer p1)]) (M' := M) rfl rfl rfl rfl ?_
      refine zg_istore dX4_read_48 (by decide) ?_
      refine zg_st (pc' := 50) (L' := [some (.inr 0), some (.inl p1), some (.inl p2), some (.inl (f_X4_blockPointer p1 p2)), some (.inl (f_X4_filePointer p1))]) (S' := []) (M' := M) rfl rfl rfl rfl ?_
      refine zg_aload_n (x := 0) dX4_read_50 rfl ?_
      refine zg_bipush (v := 52) dX4_read_51 rfl ?_
      refine zg_cV1 (As := [.inl 52]) (S := []) (v := bI ((f_X4_isUnreadable 52 M))) dX4_read_53 zk_X4_96 (k_X4_isUnreadable q 52 M) rfl rfl ⟨by decide, by decide⟩ ⟨by decide, by decide⟩ rfl (Nat.le_of_ble_eq_true rfl) ?_
      refine zg_st (pc' := 56) (L' := [some (.inr 0), some (.inl p1), some (.inl p2), some (.inl (f_X4_blockPointer p1 p2)), some (.inl (f_X4_filePointer p1))]) (S' := [.inl (bI ((f_X4_isUnreadable 52 M)))]) (M' := M) rfl rfl rfl rfl ?_
      refine zg_ifbn (tgt := 76) dX4_read_56 rfl (fun c56 => ?_) (fun c56 => ?_)
      · refine zg_st (pc' := 76) (L' := [some (.inr 0), some (.inl p1), some (.inl p2), some (.inl (f_X4_blockPointer p1 p2)), some (.inl (f_X4_filePointer p1))]) (S' := []) (M' := M) rfl rfl rfl rfl ?_
        exact zg_throw (text := "a pointer cannot be read") hq zt_99 rfl (by decide) dX4_read_76 dX4_read_79 dX4_read_80 dX4_read_82 dX4_read_85 (by decide) (Nat.le_of_ble_eq_true rfl) (by decide) (by decide) rfl
      · refine zg_st (pc' := 59) (L' := [some (.inr 0), some (.inl p1), some (.inl p2), some (.inl (f_X4_blockPointer p1 p2)), some (.inl (f_X4_filePointer p1))]) (S' := []) (M' := M) rfl rfl rfl rfl ?_
        refine zg_aload_n (x := 0) dX4_read_59 rfl ?_
        refine zg_iload (x := (f_X4_filePointer p1)) dX4_read_60 rfl ?_
        refine zg_cV1 (As := [.inl (f_X4_filePointer p1)]) (S := []) (v := bI ((f_X4_isUnreadable (f_X4_filePointer p1) M))) dX4_read_62 zk_X4_96 (k_X4_isUnreadable q (f_X4_filePointer p1) M) rfl rfl ⟨by decide, by decide⟩ ⟨by decide, by decide⟩ rfl (Nat.le_of_ble_eq_true rfl) ?_
        refine zg_st (pc' := 65) (L' := [some (.inr 0), some (.inl p1), some (.inl p2), some (.inl (f_X4_blockPointer p1 p2)), some (.inl (f_X4_filePointer p1))]) (S' := [.inl (bI ((f_X4_isUnreadable (f_X4_filePointer p1) M)))]) (M' := M) rfl rfl rfl rfl ?_
        refine zg_ifbn (tgt := 76) dX4_read_65 rfl (fun c65 => ?_) (fun c65 => ?_)
        · refine zg_st (pc' := 76) (L' := [some (.inr 0), some (.inl p1), some (.inl p2), some (.inl (f_X4_blockPointer p1 p2)), some (.inl (f_X4_filePointer p1))]) (S' := []) (M' := M) rfl rfl rfl rfl ?_
          exact zg_throw (text := "a pointer cannot be read") hq zt_99 rfl (by decide) dX4_read_76 dX4_read_79 dX4_read_80 dX4_read_82 dX4_read_85 (by decide) (Nat.le_of_ble_eq_true rfl) (by decide) (by decide) rfl
        · refine zg_st (pc' := 68) (L' := [some (.inr 0), some (.inl p1), some (.inl p2), some (.inl (f_X4_blockPointer p1 p2)), some (.inl (f_X4_filePointer p1))]) (S' := []) (M' := M) rfl rfl rfl rfl ?_
          refine zg_aload_n (x := 0) dX4_read_68 rfl ?_
          refine zg_iload_n (x := (f_X4_blockPointer p1 p2)) dX4_read_69 rfl ?_
          refine zg_cV1 (As := [.inl (f_X4_blockPointer p1 p2)]) (S := []) (v := bI ((f_X4_isUnreadable (f_X4_blockPointer p1 p2) M))) dX4_read_70 zk_X4_96 (k_X4_isUnreadable q (f_X4_blockPointer p1 p2) M) rfl rfl ⟨by decide, by decide⟩ ⟨by decide, by decide⟩ rfl (Nat.le_of_ble_eq_true rfl) ?_
          refine zg_st (pc' := 73) (L' := [some (.inr 0), some (.inl p1), some (.inl p2), some (.inl (f_X4_blockPointer p1 p2)), some (.inl (f_X4_filePointer p1))]) (S' := [.inl (bI ((f_X4_isUnreadable (f_X4_blockPointer p1 p2) M)))]) (M' := M) rfl rfl rfl rfl ?_
          refine zg_ifbe (tgt := 86) dX4_read_73 rfl (fun c73 => ?_) (fun c73 => ?_)
          · refine zg_st (pc' := 76) (L' := [some (.inr 0), some (.inl p1), some (.inl p2), some (.inl (f_X4_blockPointer p1 p2)), some (.inl (f_X4_filePointer p1))]) (S' := []) (M' := M) rfl rfl rfl rfl ?_
            exact zg_throw (text := "a pointer cannot be read") hq zt_99 rfl (by decide) dX4_read_76 dX4_read_79 dX4_read_80 dX4_read_82 dX4_read_85 (by decide) (Nat.le_of_ble_eq_true rfl) (by decide) (by decide) rfl
          · refine zg_st (pc' := 86) (L' := [some (.inr 0), some (.inl p1), some (.inl p2), some (.inl (f_X4_blockPointer p1 p2)), some (.inl (f_X4_filePointer p1))]) (S' := []) (M' := M) rfl rfl rfl rfl ?_
            refine zg_aload_n (x := 0) dX4_read_86 rfl ?_
            refine zg_dup dX4_read_87 ?_
            refine zg_getf (v := .inl (M 0 5)) dX4_read_88 zf_X4_47 rfl rfl rfl ?_
            refine zg_aload_n (x := 0) dX4_read_91 rfl ?_
            refine zg_bipush (v := 52) dX4_read_92 rfl ?_
            refine zg_cVIM (As := [.inl 52]) (S := [.inl (M 0 5), .inr 0]) dX4_read_94 zk_X4_104 (k_X4_healUpToGoodCell q 52 M) rfl rfl ⟨by decide, by decide⟩ ⟨by decide, by decide⟩ rfl (Nat.le_of_ble_eq_true rfl) (fun q1 e_q1 => ?_)
            try dsimp only
            refine zg_st (pc' := 97) (L' := [some (.inr 0), some (.inl p1), some (.inl p2), some (.inl (f_X4_blockPointer p1 p2)), some (.inl (f_X4_filePointer p1))]) (S' := [.inl q1.1, .inl (M 0 5), .inr 0]) (M' := q1.2) rfl rfl rfl rfl ?_
            refine zg_aload_n (x := 0) dX4_read_97 rfl ?_
            refine zg_iload (x := (f_X4_filePointer p1)) dX4_read_98 rfl ?_
            refine zg_cVIM (As := [.inl (f_X4_filePointer p1)]) (S := [.inl q1.1, .inl (M 0 5), .inr 0]) dX4_read_100 zk_X4_104 (k_X4_healUpToGoodCell q (f_X4_filePointer p1) q1.2) rfl rfl ⟨by decide, by decide⟩ ⟨by decide, by decide⟩ rfl (Nat.le_of_ble_eq_true rfl) (fun q2 e_q2 => ?_)
            try dsimp only
            refine zg_st (pc' := 103) (L' := [some (.inr 0), some (.inl p1), some (.inl p2), some (.inl (f_X4_blockPointer p1 p2)), some (.inl (f_X4_filePointer p1))]) (S' := [.inl q2.1, .inl q1.1, .inl (M 0 5), .inr 0]) (M' := q2.2) rfl rfl rfl rfl ?_
            refine zg_iadd dX4_read_103 ?_
            refine zg_aload_n (x := 0) dX4_read_104 rfl ?_
            refine zg_iload_n (x := (f_X4_blockPointer p1 p2)) dX4_read_105 rfl ?_
            refine zg_cVIM (As := [.inl (f_X4_blockPointer p1 p2)]) (S := [.inl (q1.1 + q2.1), .inl (M 0 5), .inr 0]) dX4_read_106 zk_X4_104 (k_X4_healUpToGoodCell q (f_X4_blockPointer p1 p2) q2.2) rfl rfl ⟨by decide, by decide⟩ ⟨by decide, by decide⟩ rfl (Nat.le_of_ble_eq_true rfl) (fun q3 e_q3 => ?_)
            try dsimp only
            refine zg_st (pc' := 109) (L' := [some (.inr 0), some (.inl p1), some (.inl p2), some (.inl (f_X4_blockPointer p1 p2)), some (.inl (f_X4_filePointer p1))]) (S' := [.inl q3.1, .inl (q1.1 + q2.1), .inl (M 0 5), .inr 0]) (M' := q3.2) rfl rfl rfl rfl ?_
            refine zg_iadd dX4_read_109 ?_
            refine zg_iadd dX4_read_110 ?_
            refine zg_putf dX4_read_111 zp_X4_47 rfl rfl ?_
            refine zg_aload_n (x := 0) dX4_read_114 rfl ?_
            refine zg_getf (v := .inr 2) dX4_read_115 zf_X4_19 rfl rfl rfl ?_
            refine zg_iload_n (x := (f_X4_blockPointer p1 p2)) dX4_read_118 rfl ?_
            refine zg_cV1 (As := [.inl (f_X4_blockPointer p1 p2)]) (S := []) (v := (f_X3_valueOf (f_X4_blockPointer p1 p2) (mup q3.2 0 5 ((M 0 5) + ((q1.1 + q2.1) + q3.1))))) dX4_read_119 zk_X4_107 (k_X3_valueOf q (f_X4_blockPointer p1 p2) (mup q3.2 0 5 ((M 0 5) + ((q1.1 + q2.1) + q3.1)))) rfl rfl ⟨by decide, by decide⟩ ⟨by decide, by decide⟩ rfl (Nat.le_of_ble_eq_true rfl) ?_
            refine zg_st (pc' := 122) (L' := [some (.inr 0), some (.inl p1), some (.inl p2), some (.inl (f_X4_blockPointer p1 p2)), some (.inl (f_X4_filePointer p1))]) (S' := [.inl (f_X3_valueOf (f_X4_blockPointer p1 p2) (mup q3.2 0 5 ((M 0 5) + ((q1.1 + q2.1) + q3.1))))]) (M' := (mup q3.2 0 5 ((M 0 5) + ((q1.1 + q2.1) + q3.1)))) rfl rfl rfl rfl ?_
            exact zg_iret dX4_read_122 rfl rfl ⟨by decide, by decide⟩ rfl
  · refine zg_st (pc' := 8) (L' := [some (.inr 0), some (.inl p1), some (.inl p2), none, none]) (S' := []) (M' := M) rfl rfl rfl rfl ?_
    exact zg_throw (text := "file or block is out of range") hq zt_55 rfl (by decide) dX4_read_8 dX4_read_11 dX4_read_12 dX4_read_14 dX4_read_17 (by decide) (Nat.le_of_ble_eq_true rfl) (by decide) (by decide) rfl
theorem dX4_nextData_0 : decode cX4_nextData 0 = .ok (.iload_n 1, 1) := by decide +kernel
theorem dX4_nextData_1 : decode cX4_nextData 1 = .ok (.iload_n 2, 1) := by decide +kernel
theorem dX4_nextData_2 : decode cX4_nextData 2 = .ok (.invokestatic 51, 3) := by decide +kernel
theorem dX4_nextData_5 : decode cX4_nextData 5 = .ok (.ifCond .ne 13, 3) := by decide +kernel
theorem dX4_nextData_8 : decode cX4_nextData 8 = .ok (.new 55, 3) := by decide +kernel
theorem dX4_nextData_11 : decode cX4_nextData 11 = .ok (.dup, 1) := by decide +kernel
theorem dX4_nextData_12 : decode cX4_nextData 12 = .ok (.ldc 84, 2) := by decide +kernel
theorem dX4_nextData_14 : decode cX4_nextData 14 = .ok (.invokespecial 59, 3) := by decide +kernel
theorem dX4_nextData_17 : decode cX4_nextData 17 = .ok (.athrow, 1) := by decide +kernel
theorem dX4_nextData_18 : decode cX4_nextData 18 = .ok (.iload_n 2, 1) := by decide +kernel
theorem dX4_nextData_19 : decode cX4_nextData 19 = .ok (.istore_n 3, 1) := by decide +kernel
theorem dX4_nextData_20 : decode cX4_nextData 20 = .ok (.iload_n 3, 1) := by decide +kernel
theorem dX4_nextData_21 : decode cX4_nextData 21 = .ok (.bipush 12, 2) := by decide +kernel
theorem dX4_nextData_23 : decode cX4_nextData 23 = .ok (.if_icmp .ge 20, 3) := by decide +kernel
theorem dX4_nextData_26 : decode cX4_nextData 26 = .ok (.aload_n 0, 1) := by decide +kernel
theorem dX4_nextData_27 : decode cX4_nextData 27 = .ok (.iload_n 1, 1) := by decide +kernel
theorem dX4_nextData_28 : decode cX4_nextData 28 = .ok (.iload_n 3, 1) := by decide +kernel
theorem dX4_nextData_29 : decode cX4_nextData 29 = .ok (.invokevirtual 62, 3) := by decide +kernel
theorem dX4_nextData_32 : decode cX4_nextData 32 = .ok (.ifCond .eq 5, 3) := by decide +kernel
theorem dX4_nextData_35 : decode cX4_nextData 35 = .ok (.iload_n 3, 1) := by decide +kernel
theorem dX4_nextData_36 : decode cX4_nextData 36 = .ok (.ireturn, 1) := by decide +kernel
theorem dX4_nextData_37 : decode cX4_nextData 37 = .ok (.iinc 3 1, 3) := by decide +kernel
theorem dX4_nextData_40 : decode cX4_nextData 40 = .ok (.goto (-20), 3) := by decide +kernel
theorem dX4_nextData_43 : decode cX4_nextData 43 = .ok (.new 110, 3) := by decide +kernel
theorem dX4_nextData_46 : decode cX4_nextData 46 = .ok (.dup, 1) := by decide +kernel
theorem dX4_nextData_47 : decode cX4_nextData 47 = .ok (.ldc 112, 2) := by decide +kernel
theorem dX4_nextData_49 : decode cX4_nextData 49 = .ok (.invokespecial 114, 3) := by decide +kernel
theorem dX4_nextData_52 : decode cX4_nextData 52 = .ok (.athrow, 1) := by decide +kernel
def b_X4_nextData_20 (x1 : Int32) (M : Mem) (rec : Int32 → (Int32 ⊕ String) ⊕ (Int32)) (v3 : Int32) : (Int32 ⊕ String) ⊕ (Int32) :=
  if 12 ≤ v3 then .inr v3
  else if (f_X4_valueNow x1 v3 M) = 0 then rec (v3 + 1)
  else .inl (.inl v3)
def l_X4_nextData_20 (x1 : Int32) (M : Mem) : Nat → Int32 → (Int32 ⊕ String) ⊕ (Int32)
  | 0, v3 => .inr v3
  | n + 1, v3 => b_X4_nextData_20 x1 M (l_X4_nextData_20 x1 M n) v3
set_option maxRecDepth 100000 in
set_option maxHeartbeats 4000000 in
theorem kl_X4_nextData_20 (q : ZQ) (hq : q.1.stackTraces = false) (x1 : Int32) (M : Mem) {K : (Int32 ⊕ String) ⊕ (Int32) → ZR} (hret : ∀ r : (Int32 ⊕ String), K (.inl r) = (xI M) r) (hx : ∀ e : Int32, Zg (zgX q) mX4_nextData 1 6 0 0 (K (.inr e)) 43 [some (.inr 0), some (.inl x1), none, some (.inl e)] [] M) :
    ∀ (n : Nat) (v3 : Int32), ((12 : Int32).toInt - (v3 : Int32).toInt).toNat < n → Zg (zgX q) mX4_nextData 1 6 0 0 (zlet (l_X4_nextData_20 x1 M n v3) K) 20 [some (.inr 0), some (.inl x1), none, some (.inl v3)] [] M := by
  intro n
  induction n with
  | zero => intro v3 hm; exact absurd hm (Nat.not_lt_zero _)
  | succ n ih =>
    intro v3 hm
    show Zg _ _ _ _ _ _ (zlet (b_X4_nextData_20 x1 M (l_X4_nextData_20 x1 M n) v3) K) _ _ _ _
    unfold b_X4_nextData_20
    refine zg_iload_n (x := v3) dX4_nextData_20 rfl ?_
    refine zg_bipush (v := 12) dX4_nextData_21 rfl ?_
    refine zg_icmpz (tgt := 43) dX4_nextData_23 rfl rfl (fun c23 => ?_) (fun c23 => ?_)
    · refine zg_st (pc' := 43) (L' := [some (.inr 0), some (.inl x1), none, some (.inl v3)]) (S' := []) (M' := M) rfl rfl rfl rfl ?_
      refine zg_drop (L' := [some (.inr 0), some (.inl x1), none, some (.inl v3)]) ⟨rfl, rfl, rfl, trivial⟩ ?_
      exact hx v3
    · refine zg_st (pc' := 26) (L' := [some (.inr 0), some (.inl x1), none, some (.inl v3)]) (S' := []) (M' := M) rfl rfl rfl rfl ?_
      refine zg_aload_n (x := 0) dX4_nextData_26 rfl ?_
      refine zg_iload_n (x := x1) dX4_nextData_27 rfl ?_
      refine zg_iload_n (x := v3) dX4_nextData_28 rfl ?_
      refine zg_cV1 (As := [.inl x1, .inl v3]) (S := []) (v := (f_X4_valueNow x1 v3 M)) dX4_nextData_29 zk_X4_62 (k_X4_valueNow q x1 v3 M) rfl rfl ⟨by decide, by decide⟩ ⟨by decide, by decide⟩ rfl (Nat.le_of_ble_eq_true rfl) ?_
      refine zg_st (pc' := 32) (L' := [some (.inr 0), some (.inl x1), none, some (.inl v3)]) (S' := [.inl (f_X4_valueNow x1 v3 M)]) (M' := M) rfl rfl rfl rfl ?_
      refine zg_ifz (tgt := 37) dX4_nextData_32 rfl rfl (fun c32 => ?_) (fun c32 => ?_)
      · refine zg_st (pc' := 37) (L' := [some (.inr 0), some (.inl x1), none, some (.inl v3)]) (S' := []) (M' := M) rfl rfl rfl rfl ?_
        refine zg_iinc (v := (v3 + 1)) dX4_nextData_37 rfl (by decide) rfl ?_
        refine zg_st (pc' := 40) (L' := [some (.inr 0), some (.inl x1), none, some (.inl (v3 + 1))]) (S' := []) (M' := M) rfl rfl rfl rfl ?_
        refine zg_goto (tgt := 20) dX4_nextData_40 rfl ?_
        refine zg_st (pc' := 20) (L' := [some (.inr 0), some (.inl x1), none, some (.inl (v3 + 1))]) (S' := []) (M' := M) rfl rfl rfl rfl ?_
        refine zg_drop (L' := [some (.inr 0), some (.inl x1), none, some (.inl (v3 + 1))]) ⟨rfl, rfl, rfl, trivial⟩ ?_
        exact ih (v3 + 1) (z_up c23 hm)
      · refine zg_st (pc' := 35) (L' := [some (.inr 0), some (.inl x1), none, some (.inl v3)]) (S' := []) (M' := M) rfl rfl rfl rfl ?_
        refine zg_iload_n (x := v3) dX4_nextData_35 rfl ?_
        exact zg_iret dX4_nextData_36 rfl rfl ⟨by decide, by decide⟩ (hret _)
def f_X4_nextData (p1 : Int32) (p2 : Int32) (M : Mem) : (Int32 ⊕ String) :=
  if (f_X4_isBlockOfFile p1 p2) then zlet (l_X4_nextData_20 p1 M (((12 : Int32).toInt - (p2 : Int32).toInt).toNat + 1) p2) (fun s1 => Sum.elim (fun r => r) (fun e_s1 =>
    .inr "java/util/NoSuchElementException") s1)
  else .inr "java/lang/IllegalArgumentException"
set_option maxRecDepth 100000 in
set_option maxHeartbeats 4000000 in
theorem k_X4_nextData (q : ZQ) (hq : q.1.stackTraces = false) (p1 : Int32) (p2 : Int32) (M : Mem) : Zc (zgX q) mX4_nextData 1 6 [.inr 0, .inl p1, .inl p2] M (xI M (f_X4_nextData p1 p2 M)) := by
  refine Zc.of (by decide) zi_X4_nextData.1 (Nat.le_of_ble_eq_true rfl) rfl ?_
  show Zg _ _ _ _ _ _ (zlet (f_X4_nextData p1 p2 M) (xI M)) _ _ _ _
  unfold f_X4_nextData
  refine zg_iload_n (x := p1) dX4_nextData_0 rfl ?_
  refine zg_iload_n (x := p2) dX4_nextData_1 rfl ?_
  refine zg_cS1 (As := [.inl p1, .inl p2]) (S := []) (v := bI ((f_X4_isBlockOfFile p1 p2))) dX4_nextData_2 zk_X4_51 (k_X4_isBlockOfFile q p1 p2 M) rfl ⟨by decide, by decide⟩ ⟨by decide, by decide⟩ rfl (Nat.le_of_ble_eq_true rfl) ?_
  refine zg_st (pc' := 5) (L' := [some (.inr 0), some (.inl p1), some (.inl p2), none]) (S' := [.inl (bI ((f_X4_isBlockOfFile p1 p2)))]) (M' := M) rfl rfl rfl rfl ?_
  refine zg_ifbn (tgt := 18) dX4_nextData_5 rfl (fun c5 => ?_) (fun c5 => ?_)
  · refine zg_st (pc' := 18) (L' := [some (.inr 0), some (.inl p1), some (.inl p2), none]) (S' := []) (M' := M) rfl rfl rfl rfl ?_
    refine zg_iload_n (x := p2) dX4_nextData_18 rfl ?_
    refine zg_istore_n dX4_nextData_19 (by decide) ?_
    refine zg_st (pc' := 20) (L' := [some (.inr 0), some (.inl p1), some (.inl p2), some (.inl p2)]) (S' := []) (M' := M) rfl rfl rfl rfl ?_
    refine zg_asc ?_
    refine zg_drop (L' := [some (.inr 0), some (.inl p1), none, some (.inl p2)]) ⟨rfl, rfl, rfl, trivial⟩ ?_
    refine kl_X4_nextData_20 q hq p1 M ?_ (fun e_s1 => ?_) (((12 : Int32).toInt - (p2 : Int32).toInt).toNat + 1) p2 (Nat.lt_succ_self _)
    · exact fun r => rfl
    try dsimp only [Sum.elim_inr]
    refine zg_st (pc' := 43) (L' := [some (.inr 0), some (.inl p1), none, some (.inl e_s1)]) (S' := []) (M' := M) rfl rfl rfl rfl ?_
    exact zg_throwN (text := "all blocks from this one on are holes") hq rfl (by decide) dX4_nextData_43 dX4_nextData_46 dX4_nextData_47 dX4_nextData_49 dX4_nextData_52 (by decide) (Nat.le_of_ble_eq_true rfl) (by decide) (by decide) rfl
  · refine zg_st (pc' := 8) (L' := [some (.inr 0), some (.inl p1), some (.inl p2), none]) (S' := []) (M' := M) rfl rfl rfl rfl ?_
    exact zg_throw (text := "file or block is out of range") hq zt_55 rfl (by decide) dX4_nextData_8 dX4_nextData_11 dX4_nextData_12 dX4_nextData_14 dX4_nextData_17 (by decide) (Nat.le_of_ble_eq_true rfl) (by decide) (by decide) rfl
theorem dX4_nextHole_0 : decode cX4_nextHole 0 = .ok (.iload_n 1, 1) := by decide +kernel
theorem dX4_nextHole_1 : decode cX4_nextHole 1 = .ok (.iload_n 2, 1) := by decide +kernel
theorem dX4_nextHole_2 : decode cX4_nextHole 2 = .ok (.invokestatic 51, 3) := by decide +kernel
theorem dX4_nextHole_5 : decode cX4_nextHole 5 = .ok (.ifCond .ne 13, 3) := by decide +kernel
theorem dX4_nextHole_8 : decode cX4_nextHole 8 = .ok (.new 55, 3) := by decide +kernel
theorem dX4_nextHole_11 : decode cX4_nextHole 11 = .ok (.dup, 1) := by decide +kernel
theorem dX4_nextHole_12 : decode cX4_nextHole 12 = .ok (.ldc 84, 2) := by decide +kernel
theorem dX4_nextHole_14 : decode cX4_nextHole 14 = .ok (.invokespecial 59, 3) := by decide +kernel
theorem dX4_nextHole_17 : decode cX4_nextHole 17 = .ok (.athrow, 1) := by decide +kernel
theorem dX4_nextHole_18 : decode cX4_nextHole 18 = .ok (.iload_n 2, 1) := by decide +kernel
theorem dX4_nextHole_19 : decode cX4_nextHole 19 = .ok (.istore_n 3, 1) := by decide +kernel
theorem dX4_nextHole_20 : decode cX4_nextHole 20 = .ok (.iload_n 3, 1) := by decide +kernel
theorem dX4_nextHole_21 : decode cX4_nextHole 21 = .ok (.bipush 12, 2) := by decide +kernel
theorem dX4_nextHole_23 : decode cX4_nextHole 23 = .ok (.if_icmp .ge 20, 3) := by decide +kernel
theorem dX4_nextHole_26 : decode cX4_nextHole 26 = .ok (.aload_n 0, 1) := by decide +kernel
theorem dX4_nextHole_27 : decode cX4_nextHole 27 = .ok (.iload_n 1, 1) := by decide +kernel
theorem dX4_nextHole_28 : decode cX4_nextHole 28 = .ok (.iload_n 3, 1) := by decide +kernel
theorem dX4_nextHole_29 : decode cX4_nextHole 29 = .ok (.invokevirtual 62, 3) := by decide +kernel
theorem dX4_nextHole_32 : decode cX4_nextHole 32 = .ok (.ifCond .ne 5, 3) := by decide +kernel
theorem dX4_nextHole_35 : decode cX4_nextHole 35 = .ok (.iload_n 3, 1) := by decide +kernel
theorem dX4_nextHole_36 : decode cX4_nextHole 36 = .ok (.ireturn, 1) := by decide +kernel
theorem dX4_nextHole_37 : decode cX4_nextHole 37 = .ok (.iinc 3 1, 3) := by decide +kernel
theorem dX4_nextHole_40 : decode cX4_nextHole 40 = .ok (.goto (-20), 3) := by decide +kernel
theorem dX4_nextHole_43 : decode cX4_nextHole 43 = .ok (.bipush 12, 2) := by decide +kernel
theorem dX4_nextHole_45 : decode cX4_nextHole 45 = .ok (.ireturn, 1) := by decide +kernel
def b_X4_nextHole_20 (x1 : Int32) (M : Mem) (rec : Int32 → (Int32 ⊕ String) ⊕ (Int32)) (v3 : Int32) : (Int32 ⊕ String) ⊕ (Int32) :=
  if 12 ≤ v3 then .inr v3
  else if ¬ (f_X4_valueNow x1 v3 M) = 0 then rec (v3 + 1)
  else .inl (.inl v3)
def l_X4_nextHole_20 (x1 : Int32) (M : Mem) : Nat → Int32 → (Int32 ⊕ String) ⊕ (Int32)
  | 0, v3 => .inr v3
  | n + 1, v3 => b_X4_nextHole_20 x1 M (l_X4_nextHole_20 x1 M n) v3
set_option maxRecDepth 100000 in
set_option maxHeartbeats 4000000 in
theorem kl_X4_nextHole_20 (q : ZQ) (hq : q.1.stackTraces = false) (x1 : Int32) (M : Mem) {K : (Int32 ⊕ String) ⊕ (Int32) → ZR} (hret : ∀ r : (Int32 ⊕ String), K (.inl r) = (xI M) r) (hx : ∀ e : Int32, Zg (zgX q) mX4_nextHole 1 6 0 0 (K (.inr e)) 43 [some (.inr 0), some (.inl x1), none, some (.inl e)] [] M) :
    ∀ (n : Nat) (v3 : Int32), ((12 : Int32).toInt - (v3 : Int32).toInt).toNat < n → Zg (zgX q) mX4_nextHole 1 6 0 0 (zlet (l_X4_nextHole_20 x1 M n v3) K) 20 [some (.inr 0), some (.inl x1), none, some (.inl v3)] [] M := by
  intro n
  induction n with
  | zero => intro v3 hm; exact absurd hm (Nat.not_lt_zero _)
  | succ n ih =>
    intro v3 hm
    show Zg _ _ _ _ _ _ (zlet (b_X4_nextHole_20 x1 M (l_X4_nextHole_20 x1 M n) v3) K) _ _ _ _
    unfold b_X4_nextHole_20
    refine zg_iload_n (x := v3) dX4_nextHole_20 rfl ?_
    refine zg_bipush (v := 12) dX4_nextHole_21 rfl ?_
    refine zg_icmpz (tgt := 43) dX4_nextHole_23 rfl rfl (fun c23 => ?_) (fun c23 => ?_)
    · refine zg_st (pc' := 43) (L' := [some (.inr 0), some (.inl x1), none, some (.inl v3)]) (S' := []) (M' := M) rfl rfl rfl rfl ?_
      refine zg_drop (L' := [some (.inr 0), some (.inl x1), none, some (.inl v3)]) ⟨rfl, rfl, rfl, trivial⟩ ?_
      exact hx v3
    · refine zg_st (pc' := 26) (L' := [some (.inr 0), some (.inl x1), none, some (.inl v3)]) (S' := []) (M' := M) rfl rfl rfl rfl ?_
      refine zg_aload_n (x := 0) dX4_nextHole_26 rfl ?_
      refine zg_iload_n (x := x1) dX4_nextHole_27 rfl ?_
      refine zg_iload_n (x := v3) dX4_nextHole_28 rfl ?_
      refine zg_cV1 (As := [.inl x1, .inl v3]) (S := []) (v := (f_X4_valueNow x1 v3 M)) dX4_nextHole_29 zk_X4_62 (k_X4_valueNow q x1 v3 M) rfl rfl ⟨by decide, by decide⟩ ⟨by decide, by decide⟩ rfl (Nat.le_of_ble_eq_true rfl) ?_
      refine zg_st (pc' := 32) (L' := [some (.inr 0), some (.inl x1), none, some (.inl v3)]) (S' := [.inl (f_X4_valueNow x1 v3 M)]) (M' := M) rfl rfl rfl rfl ?_
      refine zg_ifz (tgt := 37) dX4_nextHole_32 rfl rfl (fun c32 => ?_) (fun c32 => ?_)
      · refine zg_st (pc' := 37) (L' := [some (.inr 0), some (.inl x1), none, some (.inl v3)]) (S' := []) (M' := M) rfl rfl rfl rfl ?_
        refine zg_iinc (v := (v3 + 1)) dX4_nextHole_37 rfl (by decide) rfl ?_
        refine zg_st (pc' := 40) (L' := [some (.inr 0), some (.inl x1), none, some (.inl (v3 + 1))]) (S' := []) (M' := M) rfl rfl rfl rfl ?_
        refine zg_goto (tgt := 20) dX4_nextHole_40 rfl ?_
        refine zg_st (pc' := 20) (L' := [some (.inr 0), some (.inl x1), none, some (.inl (v3 + 1))]) (S' := []) (M' := M) rfl rfl rfl rfl ?_
        refine zg_drop (L' := [some (.inr 0), some (.inl x1), none, some (.inl (v3 + 1))]) ⟨rfl, rfl, rfl, trivial⟩ ?_
        exact ih (v3 + 1) (z_up c23 hm)
      · refine zg_st (pc' := 35) (L' := [some (.inr 0), some (.inl x1), none, some (.inl v3)]) (S' := []) (M' := M) rfl rfl rfl rfl ?_
        refine zg_iload_n (x := v3) dX4_nextHole_35 rfl ?_
        exact zg_iret dX4_nextHole_36 rfl rfl ⟨by decide, by decide⟩ (hret _)
def f_X4_nextHole (p1 : Int32) (p2 : Int32) (M : Mem) : (Int32 ⊕ String) :=
  if (f_X4_isBlockOfFile p1 p2) then zlet (l_X4_nextHole_20 p1 M (((12 : Int32).toInt - (p2 : Int32).toInt).toNat + 1) p2) (fun s1 => Sum.elim (fun r => r) (fun e_s1 =>
    .inl 12) s1)
  else .inr "java/lang/IllegalArgumentException"
set_option maxRecDepth 100000 in
set_option maxHeartbeats 4000000 in
theorem k_X4_nextHole (q : ZQ) (hq : q.1.stackTraces = false) (p1 : Int32) (p2 : Int32) (M : Mem) : Zc (zgX q) mX4_nextHole 1 6 [.inr 0, .inl p1, .inl p2] M (xI M (f_X4_nextHole p1 p2 M)) := by
  refine Zc.of (by decide) zi_X4_nextHole.1 (Nat.le_of_ble_eq_true rfl) rfl ?_
  show Zg _ _ _ _ _ _ (zlet (f_X4_nextHole p1 p2 M) (xI M)) _ _ _ _
  unfold f_X4_nextHole
  refine zg_iload_n (x := p1) dX4_nextHole_0 rfl ?_
  refine zg_iload_n (x := p2) dX4_nextHole_1 rfl ?_
  refine zg_cS1 (As := [.inl p1, .inl p2]) (S := []) (v := bI ((f_X4_isBlockOfFile p1 p2))) dX4_nextHole_2 zk_X4_51 (k_X4_isBlockOfFile q p1 p2 M) rfl ⟨by decide, by decide⟩ ⟨by decide, by decide⟩ rfl (Nat.le_of_ble_eq_true rfl) ?_
  refine zg_st (pc' := 5) (L' := [some (.inr 0), some (.inl p1), some (.inl p2), none]) (S' := [.inl (bI ((f_X4_isBlockOfFile p1 p2)))]) (M' := M) rfl rfl rfl rfl ?_
  refine zg_ifbn (tgt := 18) dX4_nextHole_5 rfl (fun c5 => ?_) (fun c5 => ?_)
  · refine zg_st (pc' := 18) (L' := [some (.inr 0), some (.inl p1), some (.inl p2), none]) (S' := []) (M' := M) rfl rfl rfl rfl ?_
    refine zg_iload_n (x := p2) dX4_nextHole_18 rfl ?_
    refine zg_istore_n dX4_nextHole_19 (by decide) ?_
    refine zg_st (pc' := 20) (L' := [some (.inr 0), some (.inl p1), some (.inl p2), some (.inl p2)]) (S' := []) (M' := M) rfl rfl rfl rfl ?_
    refine zg_asc ?_
    refine zg_drop (L' := [some (.inr 0), some (.inl p1), none, some (.inl p2)]) ⟨rfl, rfl, rfl, trivial⟩ ?_
    refine kl_X4_nextHole_20 q hq p1 M ?_ (fun e_s1 => ?_) (((12 : Int32).toInt - (p2 : Int32).toInt).toNat + 1) p2 (Nat.lt_succ_self _)
    · exact fun r => rfl
    try dsimp only [Sum.elim_inr]
    refine zg_st (pc' := 43) (L' := [some (.inr 0), some (.inl p1), none, some (.inl e_s1)]) (S' := []) (M' := M) rfl rfl rfl rfl ?_
    refine zg_bipush (v := 12) dX4_nextHole_43 rfl ?_
    exact zg_iret dX4_nextHole_45 rfl rfl ⟨by decide, by decide⟩ rfl
  · refine zg_st (pc' := 8) (L' := [some (.inr 0), some (.inl p1), some (.inl p2), none]) (S' := []) (M' := M) rfl rfl rfl rfl ?_
    exact zg_throw (text := "file or block is out of range") hq zt_55 rfl (by decide) dX4_nextHole_8 dX4_nextHole_11 dX4_nextHole_12 dX4_nextHole_14 dX4_nextHole_17 (by decide) (Nat.le_of_ble_eq_true rfl) (by decide) (by decide) rfl
theorem dX4_sync_0 : decode cX4_sync 0 = .ok (.iconst 0, 1) := by decide +kernel
theorem dX4_sync_1 : decode cX4_sync 1 = .ok (.istore_n 1, 1) := by decide +kernel
theorem dX4_sync_2 : decode cX4_sync 2 = .ok (.aload_n 0, 1) := by decide +kernel
theorem dX4_sync_3 : decode cX4_sync 3 = .ok (.getfield 26, 3) := by decide +kernel
theorem dX4_sync_6 : decode cX4_sync 6 = .ok (.invokevirtual 115, 3) := by decide +kernel
theorem dX4_sync_9 : decode cX4_sync 9 = .ok (.ifCond .le 29, 3) := by decide +kernel
theorem dX4_sync_12 : decode cX4_sync 12 = .ok (.aload_n 0, 1) := by decide +kernel
theorem dX4_sync_13 : decode cX4_sync 13 = .ok (.invokevirtual 119, 3) := by decide +kernel
theorem dX4_sync_16 : decode cX4_sync 16 = .ok (.ifCond .ne 13, 3) := by decide +kernel
theorem dX4_sync_19 : decode cX4_sync 19 = .ok (.new 99, 3) := by decide +kernel
theorem dX4_sync_22 : decode cX4_sync 22 = .ok (.dup, 1) := by decide +kernel
theorem dX4_sync_23 : decode cX4_sync 23 = .ok (.ldc 123, 2) := by decide +kernel
theorem dX4_sync_25 : decode cX4_sync 25 = .ok (.invokespecial 103, 3) := by decide +kernel
theorem dX4_sync_28 : decode cX4_sync 28 = .ok (.athrow, 1) := by decide +kernel
theorem dX4_sync_29 : decode cX4_sync 29 = .ok (.aload_n 0, 1) := by decide +kernel
theorem dX4_sync_30 : decode cX4_sync 30 = .ok (.invokevirtual 125, 3) := by decide +kernel
theorem dX4_sync_33 : decode cX4_sync 33 = .ok (.istore_n 1, 1) := by decide +kernel
theorem dX4_sync_34 : decode cX4_sync 34 = .ok (.aload_n 0, 1) := by decide +kernel
theorem dX4_sync_35 : decode cX4_sync 35 = .ok (.invokevirtual 128, 3) := by decide +kernel
theorem dX4_sync_38 : decode cX4_sync 38 = .ok (.aload_n 0, 1) := by decide +kernel
theorem dX4_sync_39 : decode cX4_sync 39 = .ok (.getfield 26, 3) := by decide +kernel
theorem dX4_sync_42 : decode cX4_sync 42 = .ok (.invokevirtual 131, 3) := by decide +kernel
theorem dX4_sync_45 : decode cX4_sync 45 = .ok (.iload_n 1, 1) := by decide +kernel
theorem dX4_sync_46 : decode cX4_sync 46 = .ok (.ireturn, 1) := by decide +kernel
def f_X4_sync (M : Mem) : ((Int32 ⊕ String) × Mem) :=
  if (f_X2_count M) ≤ 0 then zlet (f_X2_close M) (fun N1 =>
    (.inl 0, N1))
  else zlet (f_X4_choosePlaces M) (fun q2 =>
  if q2.1 then zlet (f_X4_writeChanges q2.2) (fun q3 =>
      zlet (f_X4_freeWhatIsNotPointedTo q3.2) (fun N4 =>
        zlet (f_X2_close N4) (fun N5 =>
          (.inl q3.1, N5))))
    else (.inr "java/lang/IllegalStateException", q2.2))
set_option maxRecDepth 100000 in
set_option maxHeartbeats 4000000 in
theorem k_X4_sync (q : ZQ) (hq : q.1.stackTraces = false) (M : Mem) : Zc (zgX q) mX4_sync 1 6 [.inr 0] M (xIM (f_X4_sync M)) := by
  refine Zc.of (by decide) zi_X4_sync.1 (Nat.le_of_ble_eq_true rfl) rfl ?_
  show Zg _ _ _ _ _ _ (zlet (f_X4_sync M) xIM) _ _ _ _
  unfold f_X4_sync
  refine zg_iconst (v := 0) dX4_sync_0 rfl ?_
  refine zg_istore_n dX4_sync_1 (by decide) ?_
  refine zg_st (pc' := 2) (L' := [some (.inr 0), some (.inl 0)]) (S' := []) (M' := M) rfl rfl rfl rfl ?_
  refine zg_aload_n (x := 0) dX4_sync_2 rfl ?_
  refine zg_getf (v := .inr 3) dX4_sync_3 zf_X4_26 rfl rfl rfl ?_
  refine zg_cV1 (As := []) (S := []) (v := (f_X2_count M)) dX4_sync_6 zk_X4_115 (k_X2_count q M) rfl rfl ⟨by decide, by decide⟩ ⟨by decide, by decide⟩ rfl (Nat.le_of_ble_eq_true rfl) ?_
  refine zg_st (pc' := 9) (L' := [some (.inr 0), some (.inl 0)]) (S' := [.inl (f_X2_count M)]) (M' := M) rfl rfl rfl rfl ?_
  refine zg_ifz (tgt := 38) dX4_sync_9 rfl rfl (fun c9 => ?_) (fun c9 => ?_)
  · refine zg_st (pc' := 38) (L' := [some (.inr 0), some (.inl 0)]) (S' := []) (M' := M) rfl rfl rfl rfl ?_
    refine zg_aload_n (x := 0) dX4_sync_38 rfl ?_
    refine zg_getf (v := .inr 3) dX4_sync_39 zf_X4_26 rfl rfl rfl ?_
    refine zg_cVV (As := []) (S := []) dX4_sync_42 zk_X4_131 (k_X2_close q M) rfl rfl ⟨by decide, by decide⟩ ⟨by decide, by decide⟩ rfl (Nat.le_of_ble_eq_true rfl) (fun N1 e_N1 => ?_)
    try dsimp only
    refine zg_st (pc' := 45) (L' := [some (.inr 0), some (.inl 0)]) (S' := []) (M' := N1) rfl rfl rfl rfl ?_
    refine zg_iload_n (x := 0) dX4_sync_45 rfl ?_
    exact zg_iret dX4_sync_46 rfl rfl ⟨by decide, by decide⟩ rfl
  · refine zg_st (pc' := 12) (L' := [some (.inr 0), some (.inl 0)]) (S' := []) (M' := M) rfl rfl rfl rfl ?_
    refine zg_aload_n (x := 0) dX4_sync_12 rfl ?_
    refine zg_cVBM (As := []) (S := []) dX4_sync_13 zk_X4_119 (k_X4_choosePlaces q M) rfl rfl ⟨by decide, by decide⟩ ⟨by decide, by decide⟩ rfl (Nat.le_of_ble_eq_true rfl) (fun q2 e_q2 => ?_)
    try dsimp only
    refine zg_st (pc' := 16) (L' := [some (.inr 0), some (.inl 0)]) (S' := [.inl (bI q2.1)]) (M' := q2.2) rfl rfl rfl rfl ?_
    refine zg_ifbn (tgt := 29) dX4_sync_16 rfl (fun c16 => ?_) (fun c16 => ?_)
    · refine zg_st (pc' := 29) (L' := [some (.inr 0), some (.inl 0)]) (S' := []) (M' := q2.2) rfl rfl rfl rfl ?_
      refine zg_aload_n (x := 0) dX4_sync_29 rfl ?_
      refine zg_cVIM (As := []) (S := []) dX4_sync_30 zk_X4_125 (k_X4_writeChanges q q2.2) rfl rfl ⟨by decide, by decide⟩ ⟨by decide, by decide⟩ rfl (Nat.le_of_ble_eq_true rfl) (fun q3 e_q3 => ?_)
      try dsimp only
      refine zg_st (pc' := 33) (L' := [some (.inr 0), some (.inl 0)]) (S' := [.inl q3.1]) (M' := q3.2) rfl rfl rfl rfl ?_
      refine zg_istore_n dX4_sync_33 (by decide) ?_
      refine zg_st (pc' := 34) (L' := [some (.inr 0), some (.inl q3.1)]) (S' := []) (M' := q3.2) rfl rfl rfl rfl ?_
      refine zg_aload_n (x := 0) dX4_sync_34 rfl ?_
      refine zg_cVV (As := []) (S := []) dX4_sync_35 zk_X4_128 (k_X4_freeWhatIsNotPointedTo q q3.2) rfl rfl ⟨by decide, by decide⟩ ⟨by decide, by decide⟩ rfl (Nat.le_of_ble_eq_true rfl) (fun N4 e_N4 => ?_)
      try dsimp only
      refine zg_st (pc' := 38) (L' := [some (.inr 0), some (.inl q3.1)]) (S' := []) (M' := N4) rfl rfl rfl rfl ?_
      refine zg_aload_n (x := 0) dX4_sync_38 rfl ?_
      refine zg_getf (v := .inr 3) dX4_sync_39 zf_X4_26 rfl rfl rfl ?_
      refine zg_cVV (As := []) (S := []) dX4_sync_42 zk_X4_131 (k_X2_close q N4) rfl rfl ⟨by decide, by decide⟩ ⟨by decide, by decide⟩ rfl (Nat.le_of_ble_eq_true rfl) (fun N5 e_N5 => ?_)
      try dsimp only
      refine zg_st (pc' := 45) (L' := [some (.inr 0), some (.inl q3.1)]) (S' := []) (M' := N5) rfl rfl rfl rfl ?_
      refine zg_iload_n (x := q3.1) dX4_sync_45 rfl ?_
      exact zg_iret dX4_sync_46 rfl rfl ⟨by decide, by decide⟩ rfl
    · refine zg_st (pc' := 19) (L' := [some (.inr 0), some (.inl 0)]) (S' := []) (M' := q2.2) rfl rfl rfl rfl ?_
      exact zg_throw (text := "there is no free cell for some place") hq zt_99 rfl (by decide) dX4_sync_19 dX4_sync_22 dX4_sync_23 dX4_sync_25 dX4_sync_28 (by decide) (Nat.le_of_ble_eq_true rfl) (by decide) (by decide) rfl
theorem dX4_abandon_0 : decode cX4_abandon 0 = .ok (.aload_n 0, 1) := by decide +kernel
theorem dX4_abandon_1 : decode cX4_abandon 1 = .ok (.getfield 26, 3) := by decide +kernel
theorem dX4_abandon_4 : decode cX4_abandon 4 = .ok (.invokevirtual 115, 3) := by decide +kernel
theorem dX4_abandon_7 : decode cX4_abandon 7 = .ok (.istore_n 1, 1) := by decide +kernel
theorem dX4_abandon_8 : decode cX4_abandon 8 = .ok (.aload_n 0, 1) := by decide +kernel
theorem dX4_abandon_9 : decode cX4_abandon 9 = .ok (.getfield 26, 3) := by decide +kernel
theorem dX4_abandon_12 : decode cX4_abandon 12 = .ok (.invokevirtual 134, 3) := by decide +kernel
theorem dX4_abandon_15 : decode cX4_abandon 15 = .ok (.iload_n 1, 1) := by decide +kernel
theorem dX4_abandon_16 : decode cX4_abandon 16 = .ok (.ireturn, 1) := by decide +kernel
def f_X4_abandon (M : Mem) : (Int32 × Mem) :=
  zlet (f_X2_dropChanges M) (fun N1 =>
  ((f_X2_count M), N1))
set_option maxRecDepth 100000 in
set_option maxHeartbeats 4000000 in
theorem k_X4_abandon (q : ZQ) (M : Mem) : Zc (zgX q) mX4_abandon 0 0 [.inr 0] M (wIM (f_X4_abandon M)) := by
  refine Zc.of (by decide) zi_X4_abandon.1 (Nat.le_of_ble_eq_true rfl) rfl ?_
  show Zg _ _ _ _ _ _ (zlet (f_X4_abandon M) wIM) _ _ _ _
  unfold f_X4_abandon
  refine zg_aload_n (x := 0) dX4_abandon_0 rfl ?_
  refine zg_getf (v := .inr 3) dX4_abandon_1 zf_X4_26 rfl rfl rfl ?_
  refine zg_cV1 (As := []) (S := []) (v := (f_X2_count M)) dX4_abandon_4 zk_X4_115 (k_X2_count q M) rfl rfl ⟨by decide, by decide⟩ ⟨by decide, by decide⟩ rfl (Nat.le_of_ble_eq_true rfl) ?_
  refine zg_st (pc' := 7) (L' := [some (.inr 0), none]) (S' := [.inl (f_X2_count M)]) (M' := M) rfl rfl rfl rfl ?_
  refine zg_istore_n dX4_abandon_7 (by decide) ?_
  refine zg_st (pc' := 8) (L' := [some (.inr 0), some (.inl (f_X2_count M))]) (S' := []) (M' := M) rfl rfl rfl rfl ?_
  refine zg_aload_n (x := 0) dX4_abandon_8 rfl ?_
  refine zg_getf (v := .inr 3) dX4_abandon_9 zf_X4_26 rfl rfl rfl ?_
  refine zg_cVV (As := []) (S := []) dX4_abandon_12 zk_X4_134 (k_X2_dropChanges q M) rfl rfl ⟨by decide, by decide⟩ ⟨by decide, by decide⟩ rfl (Nat.le_of_ble_eq_true rfl) (fun N1 e_N1 => ?_)
  try dsimp only
  refine zg_st (pc' := 15) (L' := [some (.inr 0), some (.inl (f_X2_count M))]) (S' := []) (M' := N1) rfl rfl rfl rfl ?_
  refine zg_iload_n (x := (f_X2_count M)) dX4_abandon_15 rfl ?_
  exact zg_iret dX4_abandon_16 rfl rfl ⟨by decide, by decide⟩ rfl
theorem dX4_group_0 : decode cX4_group 0 = .ok (.aload_n 0, 1) := by decide +kernel
theorem dX4_group_1 : decode cX4_group 1 = .ok (.getfield 26, 3) := by decide +kernel
theorem dX4_group_4 : decode cX4_group 4 = .ok (.getfield 137, 3) := by decide +kernel
theorem dX4_group_7 : decode cX4_group 7 = .ok (.ireturn, 1) := by decide +kernel
def f_X4_group (M : Mem) : Int32 :=
  (M 3 1)
set_option maxRecDepth 100000 in
set_option maxHeartbeats 4000000 in
theorem k_X4_group (q : ZQ) (M : Mem) : Zc (zgX q) mX4_group 0 0 [.inr 0] M (wI M (f_X4_group M)) := by
  refine Zc.of (by decide) zi_X4_group.1 (Nat.le_of_ble_eq_true rfl) rfl ?_
  show Zg _ _ _ _ _ _ (zlet (f_X4_group M) (wI M)) _ _ _ _
  unfold f_X4_group
  refine zg_aload_n (x := 0) dX4_group_0 rfl ?_
  refine zg_getf (v := .inr 3) dX4_group_1 zf_X4_26 rfl rfl rfl ?_
  refine zg_getf (v := .inl (M 3 1)) dX4_group_4 zf_X4_137 rfl rfl rfl ?_
  exact zg_iret dX4_group_7 rfl rfl ⟨by decide, by decide⟩ rfl
theorem dX4_buffered_0 : decode cX4_buffered 0 = .ok (.aload_n 0, 1) := by decide +kernel
theorem dX4_buffered_1 : decode cX4_buffered 1 = .ok (.getfield 26, 3) := by decide +kernel
theorem dX4_buffered_4 : decode cX4_buffered 4 = .ok (.invokevirtual 115, 3) := by decide +kernel
theorem dX4_buffered_7 : decode cX4_buffered 7 = .ok (.ireturn, 1) := by decide +kernel
def f_X4_buffered (M : Mem) : Int32 :=
  (f_X2_count M)
set_option maxRecDepth 100000 in
set_option maxHeartbeats 4000000 in
theorem k_X4_buffered (q : ZQ) (M : Mem) : Zc (zgX q) mX4_buffered 0 0 [.inr 0] M (wI M (f_X4_buffered M)) := by
  refine Zc.of (by decide) zi_X4_buffered.1 (Nat.le_of_ble_eq_true rfl) rfl ?_
  show Zg _ _ _ _ _ _ (zlet (f_X4_buffered M) (wI M)) _ _ _ _
  unfold f_X4_buffered
  refine zg_aload_n (x := 0) dX4_buffered_0 rfl ?_
  refine zg_getf (v := .inr 3) dX4_buffered_1 zf_X4_26 rfl rfl rfl ?_
  refine zg_cV1 (As := []) (S := []) (v := (f_X2_count M)) dX4_buffered_4 zk_X4_115 (k_X2_count q M) rfl rfl ⟨by decide, by decide⟩ ⟨by decide, by decide⟩ rfl (Nat.le_of_ble_eq_true rfl) ?_
  refine zg_st (pc' := 7) (L' := [some (.inr 0)]) (S' := [.inl (f_X2_count M)]) (M' := M) rfl rfl rfl rfl ?_
  exact zg_iret dX4_buffered_7 rfl rfl ⟨by decide, by decide⟩ rfl
theorem dX4_offline_0 : decode cX4_offline 0 = .ok (.iload_n 1, 1) := by decide +kernel
theorem dX4_offline_1 : decode cX4_offline 1 = .ok (.iload_n 2, 1) := by decide +kernel
theorem dX4_offline_2 : decode cX4_offline 2 = .ok (.invokestatic 140, 3) := by decide +kernel
theorem dX4_offline_5 : decode cX4_offline 5 = .ok (.ifCond .ne 13, 3) := by decide +kernel
theorem dX4_offline_8 : decode cX4_offline 8 = .ok (.new 55, 3) := by decide +kernel
theorem dX4_offline_11 : decode cX4_offline 11 = .ok (.dup, 1) := by decide +kernel
theorem dX4_offline_12 : decode cX4_offline 12 = .ok (.ldc 143, 2) := by decide +kernel
theorem dX4_offline_14 : decode cX4_offline 14 = .ok (.invokespecial 59, 3) := by decide +kernel
theorem dX4_offline_17 : decode cX4_offline 17 = .ok (.athrow, 1) := by decide +kernel
theorem dX4_offline_18 : decode cX4_offline 18 = .ok (.iconst 0, 1) := by decide +kernel
theorem dX4_offline_19 : decode cX4_offline 19 = .ok (.istore_n 3, 1) := by decide +kernel
theorem dX4_offline_20 : decode cX4_offline 20 = .ok (.iload_n 3, 1) := by decide +kernel
theorem dX4_offline_21 : decode cX4_offline 21 = .ok (.iconst 2, 1) := by decide +kernel
theorem dX4_offline_22 : decode cX4_offline 22 = .ok (.if_icmp .ge 31, 3) := by decide +kernel
theorem dX4_offline_25 : decode cX4_offline 25 = .ok (.aload_n 0, 1) := by decide +kernel
theorem dX4_offline_26 : decode cX4_offline 26 = .ok (.getfield 12, 3) := by decide +kernel
theorem dX4_offline_29 : decode cX4_offline 29 = .ok (.iload_n 1, 1) := by decide +kernel
theorem dX4_offline_30 : decode cX4_offline 30 = .ok (.iload_n 3, 1) := by decide +kernel
theorem dX4_offline_31 : decode cX4_offline 31 = .ok (.invokevirtual 145, 3) := by decide +kernel
theorem dX4_offline_34 : decode cX4_offline 34 = .ok (.ifCond .ne 13, 3) := by decide +kernel
theorem dX4_offline_37 : decode cX4_offline 37 = .ok (.new 99, 3) := by decide +kernel
theorem dX4_offline_40 : decode cX4_offline 40 = .ok (.dup, 1) := by decide +kernel
theorem dX4_offline_41 : decode cX4_offline 41 = .ok (.ldc 148, 2) := by decide +kernel
theorem dX4_offline_43 : decode cX4_offline 43 = .ok (.invokespecial 103, 3) := by decide +kernel
theorem dX4_offline_46 : decode cX4_offline 46 = .ok (.athrow, 1) := by decide +kernel
theorem dX4_offline_47 : decode cX4_offline 47 = .ok (.iinc 3 1, 3) := by decide +kernel
theorem dX4_offline_50 : decode cX4_offline 50 = .ok (.goto (-30), 3) := by decide +kernel
theorem dX4_offline_53 : decode cX4_offline 53 = .ok (.aload_n 0, 1) := by decide +kernel
theorem dX4_offline_54 : decode cX4_offline 54 = .ok (.getfield 12, 3) := by decide +kernel
theorem dX4_offline_57 : decode cX4_offline 57 = .ok (.iload_n 1, 1) := by decide +kernel
theorem dX4_offline_58 : decode cX4_offline 58 = .ok (.iload_n 2, 1) := by decide +kernel
theorem dX4_offline_59 : decode cX4_offline 59 = .ok (.aload_n 0, 1) := by decide +kernel
theorem dX4_offline_60 : decode cX4_offline 60 = .ok (.getfield 26, 3) := by decide +kernel
theorem dX4_offline_63 : decode cX4_offline 63 = .ok (.getfield 137, 3) := by decide +kernel
theorem dX4_offline_66 : decode cX4_offline 66 = .ok (.iconst 1, 1) := by decide +kernel
theorem dX4_offline_67 : decode cX4_offline 67 = .ok (.isub, 1) := by decide +kernel
theorem dX4_offline_68 : decode cX4_offline 68 = .ok (.invokevirtual 150, 3) := by decide +kernel
theorem dX4_offline_71 : decode cX4_offline 71 = .ok (.return_, 1) := by decide +kernel
def b_X4_offline_20 (x1 : Int32) (x2 : Int32) (M : Mem) (rec : Int32 → ((Unit ⊕ String) × Mem) ⊕ (Int32)) (v3 : Int32) : ((Unit ⊕ String) × Mem) ⊕ (Int32) :=
  if 2 ≤ v3 then .inr v3
  else if (f_X0_hasOnline x1 v3 M) then rec (v3 + 1)
  else .inl (.inr "java/lang/IllegalStateException", M)
def l_X4_offline_20 (x1 : Int32) (x2 : Int32) (M : Mem) : Nat → Int32 → ((Unit ⊕ String) × Mem) ⊕ (Int32)
  | 0, v3 => .inr v3
  | n + 1, v3 => b_X4_offline_20 x1 x2 M (l_X4_offline_20 x1 x2 M n) v3
set_option maxRecDepth 100000 in
set_option maxHeartbeats 4000000 in
theorem kl_X4_offline_20 (q : ZQ) (hq : q.1.stackTraces = false) (x1 : Int32) (x2 : Int32) (M : Mem) {K : ((Unit ⊕ String) × Mem) ⊕ (Int32) → ZR} (hret : ∀ r : ((Unit ⊕ String) × Mem), K (.inl r) = xV r) (hx : ∀ e : Int32, Zg (zgX q) mX4_offline 1 6 0 0 (K (.inr e)) 53 [some (.inr 0), some (.inl x1), some (.inl x2), some (.inl e)] [] M) :
    ∀ (n : Nat) (v3 : Int32), ((2 : Int32).toInt - (v3 : Int32).toInt).toNat < n → Zg (zgX q) mX4_offline 1 6 0 0 (zlet (l_X4_offline_20 x1 x2 M n v3) K) 20 [some (.inr 0), some (.inl x1), some (.inl x2), some (.inl v3)] [] M := by
  intro n
  induction n with
  | zero => intro v3 hm; exact absurd hm (Nat.not_lt_zero _)
  | succ n ih =>
    intro v3 hm
    show Zg _ _ _ _ _ _ (zlet (b_X4_offline_20 x1 x2 M (l_X4_offline_20 x1 x2 M n) v3) K) _ _ _ _
    unfold b_X4_offline_20
    refine zg_iload_n (x := v3) dX4_offline_20 rfl ?_
    refine zg_iconst (v := 2) dX4_offline_21 rfl ?_
    refine zg_icmpz (tgt := 53) dX4_offline_22 rfl rfl (fun c22 => ?_) (fun c22 => ?_)
    · refine zg_st (pc' := 53) (L' := [some (.inr 0), some (.inl x1), some (.inl x2), some (.inl v3)]) (S' := []) (M' := M) rfl rfl rfl rfl ?_
      refine zg_drop (L' := [some (.inr 0), some (.inl x1), some (.inl x2), some (.inl v3)]) ⟨rfl, rfl, rfl, rfl, trivial⟩ ?_
      exact hx v3
    · refine zg_st (pc' := 25) (L' := [some (.inr 0), some (.inl x1), some (.inl x2), some (.inl v3)]) (S' := []) (M' := M) rfl rfl rfl rfl ?_
      refine zg_aload_n (x := 0) dX4_offline_25 rfl ?_
      refine zg_getf (v := .inr 1) dX4_offline_26 zf_X4_12 rfl rfl rfl ?_
      refine zg_iload_n (x := x1) dX4_offline_29 rfl ?_
      refine zg_iload_n (x := v3) dX4_offline_30 rfl ?_
      refine zg_cV1 (As := [.inl x1, .inl v3]) (S := []) (v := bI ((f_X0_hasOnline x1 v3 M))) dX4_offline_31 zk_X4_145 (k_X0_hasOnline q x1 v3 M) rfl rfl ⟨by decide, by decide⟩ ⟨by decide, by decide⟩ rfl (Nat.le_of_ble_eq_true rfl) ?_
      refine zg_st (pc' := 34) (L' := [some (.inr 0), some (.inl x1), some (.inl x2), some (.inl v3)]) (S' := [.inl (bI ((f_X0_hasOnline x1 v3 M)))]) (M' := M) rfl rfl rfl rfl ?_
      refine zg_ifbn (tgt := 47) dX4_offline_34 rfl (fun c34 => ?_) (fun c34 => ?_)
      · refine zg_st (pc' := 47) (L' := [some (.inr 0), some (.inl x1), some (.inl x2), some (.inl v3)]) (S' := []) (M' := M) rfl rfl rfl rfl ?_
        refine zg_iinc (v := (v3 + 1)) dX4_offline_47 rfl (by decide) rfl ?_
        refine zg_st (pc' := 50) (L' := [some (.inr 0), some (.inl x1), some (.inl x2), some (.inl (v3 + 1))]) (S' := []) (M' := M) rfl rfl rfl rfl ?_
        refine zg_goto (tgt := 20) dX4_offline_50 rfl ?_
        refine zg_st (pc' := 20) (L' := [some (.inr 0), some (.inl x1), some (.inl x2), some (.inl (v3 + 1))]) (S' := []) (M' := M) rfl rfl rfl rfl ?_
        refine zg_drop (L' := [some (.inr 0), some (.inl x1), some (.inl x2), some (.inl (v3 + 1))]) ⟨rfl, rfl, rfl, rfl, trivial⟩ ?_
        exact ih (v3 + 1) (z_up c22 hm)
      · refine zg_st (pc' := 37) (L' := [some (.inr 0), some (.inl x1), some (.inl x2), some (.inl v3)]) (S' := []) (M' := M) rfl rfl rfl rfl ?_
        exact zg_throw (text := "a side of the mirror is offline") hq zt_99 rfl (by decide) dX4_offline_37 dX4_offline_40 dX4_offline_41 dX4_offline_43 dX4_offline_46 (by decide) (Nat.le_of_ble_eq_true rfl) (by decide) (by decide) (hret _)
def f_X4_offline (p1 : Int32) (p2 : Int32) (M : Mem) : ((Unit ⊕ String) × Mem) :=
  if (f_X4_isSideOfMirror p1 p2) then zlet (l_X4_offline_20 p1 p2 M 3 0) (fun s1 => Sum.elim (fun r => r) (fun e_s1 =>
    zlet (f_X0_takeOffline p1 p2 ((M 3 1) - 1) M) (fun N2 =>
      (.inl (), N2))) s1)
  else (.inr "java/lang/IllegalArgumentException", M)
set_option maxRecDepth 100000 in
set_option maxHeartbeats 4000000 in
theorem k_X4_offline (q : ZQ) (hq : q.1.stackTraces = false) (p1 : Int32) (p2 : Int32) (M : Mem) : Zc (zgX q) mX4_offline 1 6 [.inr 0, .inl p1, .inl p2] M (xV (f_X4_offline p1 p2 M)) := by
  refine Zc.of (by decide) zi_X4_offline.1 (Nat.le_of_ble_eq_true rfl) rfl ?_
  show Zg _ _ _ _ _ _ (zlet (f_X4_offline p1 p2 M) xV) _ _ _ _
  unfold f_X4_offline
  refine zg_iload_n (x := p1) dX4_offline_0 rfl ?_
  refine zg_iload_n (x := p2) dX4_offline_1 rfl ?_
  refine zg_cS1 (As := [.inl p1, .inl p2]) (S := []) (v := bI ((f_X4_isSideOfMirror p1 p2))) dX4_offline_2 zk_X4_140 (k_X4_isSideOfMirror q p1 p2 M) rfl ⟨by decide, by decide⟩ ⟨by decide, by decide⟩ rfl (Nat.le_of_ble_eq_true rfl) ?_
  refine zg_st (pc' := 5) (L' := [some (.inr 0), some (.inl p1), some (.inl p2), none]) (S' := [.inl (bI ((f_X4_isSideOfMirror p1 p2)))]) (M' := M) rfl rfl rfl rfl ?_
  refine zg_ifbn (tgt := 18) dX4_offline_5 rfl (fun c5 => ?_) (fun c5 => ?_)
  · refine zg_st (pc' := 18) (L' := [some (.inr 0), some (.inl p1), some (.inl p2), none]) (S' := []) (M' := M) rfl rfl rfl rfl ?_
    refine zg_iconst (v := 0) dX4_offline_18 rfl ?_
    refine zg_istore_n dX4_offline_19 (by decide) ?_
    refine zg_st (pc' := 20) (L' := [some (.inr 0), some (.inl p1), some (.inl p2), some (.inl 0)]) (S' := []) (M' := M) rfl rfl rfl rfl ?_
    refine zg_asc ?_
    refine zg_drop (L' := [some (.inr 0), some (.inl p1), some (.inl p2), some (.inl 0)]) ⟨rfl, rfl, rfl, rfl, trivial⟩ ?_
    refine kl_X4_offline_20 q hq p1 p2 M ?_ (fun e_s1 => ?_) 3 0 (by decide)
    · exact fun r => rfl
    try dsimp only [Sum.elim_inr]
    refine zg_st (pc' := 53) (L' := [some (.inr 0), some (.inl p1), some (.inl p2), some (.inl e_s1)]) (S' := []) (M' := M) rfl rfl rfl rfl ?_
    refine zg_aload_n (x := 0) dX4_offline_53 rfl ?_
    refine zg_getf (v := .inr 1) dX4_offline_54 zf_X4_12 rfl rfl rfl ?_
    refine zg_iload_n (x := p1) dX4_offline_57 rfl ?_
    refine zg_iload_n (x := p2) dX4_offline_58 rfl ?_
    refine zg_aload_n (x := 0) dX4_offline_59 rfl ?_
    refine zg_getf (v := .inr 3) dX4_offline_60 zf_X4_26 rfl rfl rfl ?_
    refine zg_getf (v := .inl (M 3 1)) dX4_offline_63 zf_X4_137 rfl rfl rfl ?_
    refine zg_iconst (v := 1) dX4_offline_66 rfl ?_
    refine zg_isub dX4_offline_67 ?_
    refine zg_cVV (As := [.inl p1, .inl p2, .inl ((M 3 1) - 1)]) (S := []) dX4_offline_68 zk_X4_150 (k_X0_takeOffline q p1 p2 ((M 3 1) - 1) M) rfl rfl ⟨by decide, by decide⟩ ⟨by decide, by decide⟩ rfl (Nat.le_of_ble_eq_true rfl) (fun N2 e_N2 => ?_)
    try dsimp only
    refine zg_st (pc' := 71) (L' := [some (.inr 0), some (.inl p1), some (.inl p2), some (.inl e_s1)]) (S' := []) (M' := N2) rfl rfl rfl rfl ?_
    exact zg_vret dX4_offline_71 rfl ⟨by decide, by decide⟩ rfl
  · refine zg_st (pc' := 8) (L' := [some (.inr 0), some (.inl p1), some (.inl p2), none]) (S' := []) (M' := M) rfl rfl rfl rfl ?_
    exact zg_throw (text := "mirror or side is out of range") hq zt_55 rfl (by decide) dX4_offline_8 dX4_offline_11 dX4_offline_12 dX4_offline_14 dX4_offline_17 (by decide) (Nat.le_of_ble_eq_true rfl) (by decide) (by decide) rfl
theorem dX4_online_0 : decode cX4_online 0 = .ok (.iload_n 1, 1) := by decide +kernel
theorem dX4_online_1 : decode cX4_online 1 = .ok (.iload_n 2, 1) := by decide +kernel
theorem dX4_online_2 : decode cX4_online 2 = .ok (.invokestatic 140, 3) := by decide +kernel
theorem dX4_online_5 : decode cX4_online 5 = .ok (.ifCond .ne 13, 3) := by decide +kernel
theorem dX4_online_8 : decode cX4_online 8 = .ok (.new 55, 3) := by decide +kernel
theorem dX4_online_11 : decode cX4_online 11 = .ok (.dup, 1) := by decide +kernel
theorem dX4_online_12 : decode cX4_online 12 = .ok (.ldc 143, 2) := by decide +kernel
theorem dX4_online_14 : decode cX4_online 14 = .ok (.invokespecial 59, 3) := by decide +kernel
theorem dX4_online_17 : decode cX4_online 17 = .ok (.athrow, 1) := by decide +kernel
theorem dX4_online_18 : decode cX4_online 18 = .ok (.aload_n 0, 1) := by decide +kernel
theorem dX4_online_19 : decode cX4_online 19 = .ok (.getfield 12, 3) := by decide +kernel
theorem dX4_online_22 : decode cX4_online 22 = .ok (.iload_n 1, 1) := by decide +kernel
theorem dX4_online_23 : decode cX4_online 23 = .ok (.iload_n 2, 1) := by decide +kernel
theorem dX4_online_24 : decode cX4_online 24 = .ok (.invokevirtual 145, 3) := by decide +kernel
theorem dX4_online_27 : decode cX4_online 27 = .ok (.ifCond .eq 13, 3) := by decide +kernel
theorem dX4_online_30 : decode cX4_online 30 = .ok (.new 99, 3) := by decide +kernel
theorem dX4_online_33 : decode cX4_online 33 = .ok (.dup, 1) := by decide +kernel
theorem dX4_online_34 : decode cX4_online 34 = .ok (.ldc 154, 2) := by decide +kernel
theorem dX4_online_36 : decode cX4_online 36 = .ok (.invokespecial 103, 3) := by decide +kernel
theorem dX4_online_39 : decode cX4_online 39 = .ok (.athrow, 1) := by decide +kernel
theorem dX4_online_40 : decode cX4_online 40 = .ok (.aload_n 0, 1) := by decide +kernel
theorem dX4_online_41 : decode cX4_online 41 = .ok (.iload_n 1, 1) := by decide +kernel
theorem dX4_online_42 : decode cX4_online 42 = .ok (.iload_n 2, 1) := by decide +kernel
theorem dX4_online_43 : decode cX4_online 43 = .ok (.invokevirtual 156, 3) := by decide +kernel
theorem dX4_online_46 : decode cX4_online 46 = .ok (.istore_n 3, 1) := by decide +kernel
theorem dX4_online_47 : decode cX4_online 47 = .ok (.aload_n 0, 1) := by decide +kernel
theorem dX4_online_48 : decode cX4_online 48 = .ok (.getfield 12, 3) := by decide +kernel
theorem dX4_online_51 : decode cX4_online 51 = .ok (.iload_n 1, 1) := by decide +kernel
theorem dX4_online_52 : decode cX4_online 52 = .ok (.iload_n 2, 1) := by decide +kernel
theorem dX4_online_53 : decode cX4_online 53 = .ok (.invokevirtual 159, 3) := by decide +kernel
theorem dX4_online_56 : decode cX4_online 56 = .ok (.iload_n 3, 1) := by decide +kernel
theorem dX4_online_57 : decode cX4_online 57 = .ok (.ireturn, 1) := by decide +kernel
def f_X4_online (p1 : Int32) (p2 : Int32) (M : Mem) : ((Int32 ⊕ String) × Mem) :=
  if (f_X4_isSideOfMirror p1 p2) then if (f_X0_hasOnline p1 p2 M) then (.inr "java/lang/IllegalStateException", M)
    else zlet (f_X4_resilver p1 p2 M) (fun q1 =>
    zlet (f_X0_bringOnline p1 p2 q1.2) (fun N2 =>
      (.inl q1.1, N2)))
  else (.inr "java/lang/IllegalArgumentException", M)
set_option maxRecDepth 100000 in
set_option maxHeartbeats 4000000 in
theorem k_X4_online (q : ZQ) (hq : q.1.stackTraces = false) (p1 : Int32) (p2 : Int32) (M : Mem) : Zc (zgX q) mX4_online 1 6 [.inr 0, .inl p1, .inl p2] M (xIM (f_X4_online p1 p2 M)) := by
  refine Zc.of (by decide) zi_X4_online.1 (Nat.le_of_ble_eq_true rfl) rfl ?_
  show Zg _ _ _ _ _ _ (zlet (f_X4_online p1 p2 M) xIM) _ _ _ _
  unfold f_X4_online
  refine zg_iload_n (x := p1) dX4_online_0 rfl ?_
  refine zg_iload_n (x := p2) dX4_online_1 rfl ?_
  refine zg_cS1 (As := [.inl p1, .inl p2]) (S := []) (v := bI ((f_X4_isSideOfMirror p1 p2))) dX4_online_2 zk_X4_140 (k_X4_isSideOfMirror q p1 p2 M) rfl ⟨by decide, by decide⟩ ⟨by decide, by decide⟩ rfl (Nat.le_of_ble_eq_true rfl) ?_
  refine zg_st (pc' := 5) (L' := [some (.inr 0), some (.inl p1), some (.inl p2), none]) (S' := [.inl (bI ((f_X4_isSideOfMirror p1 p2)))]) (M' := M) rfl rfl rfl rfl ?_
  refine zg_ifbn (tgt := 18) dX4_online_5 rfl (fun c5 => ?_) (fun c5 => ?_)
  · refine zg_st (pc' := 18) (L' := [some (.inr 0), some (.inl p1), some (.inl p2), none]) (S' := []) (M' := M) rfl rfl rfl rfl ?_
    refine zg_aload_n (x := 0) dX4_online_18 rfl ?_
    refine zg_getf (v := .inr 1) dX4_online_19 zf_X4_12 rfl rfl rfl ?_
    refine zg_iload_n (x := p1) dX4_online_22 rfl ?_
    refine zg_iload_n (x := p2) dX4_online_23 rfl ?_
    refine zg_cV1 (As := [.inl p1, .inl p2]) (S := []) (v := bI ((f_X0_hasOnline p1 p2 M))) dX4_online_24 zk_X4_145 (k_X0_hasOnline q p1 p2 M) rfl rfl ⟨by decide, by decide⟩ ⟨by decide, by decide⟩ rfl (Nat.le_of_ble_eq_true rfl) ?_
    refine zg_st (pc' := 27) (L' := [some (.inr 0), some (.inl p1), some (.inl p2), none]) (S' := [.inl (bI ((f_X0_hasOnline p1 p2 M)))]) (M' := M) rfl rfl rfl rfl ?_
    refine zg_ifbe (tgt := 40) dX4_online_27 rfl (fun c27 => ?_) (fun c27 => ?_)
    · refine zg_st (pc' := 30) (L' := [some (.inr 0), some (.inl p1), some (.inl p2), none]) (S' := []) (M' := M) rfl rfl rfl rfl ?_
      exact zg_throw (text := "the side is online") hq zt_99 rfl (by decide) dX4_online_30 dX4_online_33 dX4_online_34 dX4_online_36 dX4_online_39 (by decide) (Nat.le_of_ble_eq_true rfl) (by decide) (by decide) rfl
    · refine zg_st (pc' := 40) (L' := [some (.inr 0), some (.inl p1), some (.inl p2), none]) (S' := []) (M' := M) rfl rfl rfl rfl ?_
      refine zg_aload_n (x := 0) dX4_online_40 rfl ?_
      refine zg_iload_n (x := p1) dX4_online_41 rfl ?_
      refine zg_iload_n (x := p2) dX4_online_42 rfl ?_
      refine zg_cVIM (As := [.inl p1, .inl p2]) (S := []) dX4_online_43 zk_X4_156 (k_X4_resilver q p1 p2 M) rfl rfl ⟨by decide, by decide⟩ ⟨by decide, by decide⟩ rfl (Nat.le_of_ble_eq_true rfl) (fun q1 e_q1 => ?_)
      try dsimp only
      refine zg_st (pc' := 46) (L' := [some (.inr 0), some (.inl p1), some (.inl p2), none]) (S' := [.inl q1.1]) (M' := q1.2) rfl rfl rfl rfl ?_
      refine zg_istore_n dX4_online_46 (by decide) ?_
      refine zg_st (pc' := 47) (L' := [some (.inr 0), some (.inl p1), some (.inl p2), some (.inl q1.1)]) (S' := []) (M' := q1.2) rfl rfl rfl rfl ?_
      refine zg_aload_n (x := 0) dX4_online_47 rfl ?_
      refine zg_getf (v := .inr 1) dX4_online_48 zf_X4_12 rfl rfl rfl ?_
      refine zg_iload_n (x := p1) dX4_online_51 rfl ?_
      refine zg_iload_n (x := p2) dX4_online_52 rfl ?_
      refine zg_cVV (As := [.inl p1, .inl p2]) (S := []) dX4_online_53 zk_X4_159 (k_X0_bringOnline q p1 p2 q1.2) rfl rfl ⟨by decide, by decide⟩ ⟨by decide, by decide⟩ rfl (Nat.le_of_ble_eq_true rfl) (fun N2 e_N2 => ?_)
      try dsimp only
      refine zg_st (pc' := 56) (L' := [some (.inr 0), some (.inl p1), some (.inl p2), some (.inl q1.1)]) (S' := []) (M' := N2) rfl rfl rfl rfl ?_
      refine zg_iload_n (x := q1.1) dX4_online_56 rfl ?_
      exact zg_iret dX4_online_57 rfl rfl ⟨by decide, by decide⟩ rfl
  · refine zg_st (pc' := 8) (L' := [some (.inr 0), some (.inl p1), some (.inl p2), none]) (S' := []) (M' := M) rfl rfl rfl rfl ?_
    exact zg_throw (text := "mirror or side is out of range") hq zt_55 rfl (by decide) dX4_online_8 dX4_online_11 dX4_online_12 dX4_online_14 dX4_online_17 (by decide) (Nat.le_of_ble_eq_true rfl) (by decide) (by decide) rfl
theorem dX4_spoil_0 : decode cX4_spoil 0 = .ok (.iload_n 1, 1) := by decide +kernel
theorem dX4_spoil_1 : decode cX4_spoil 1 = .ok (.iload_n 2, 1) := by decide +kernel
theorem dX4_spoil_2 : decode cX4_spoil 2 = .ok (.invokestatic 140, 3) := by decide +kernel
theorem dX4_spoil_5 : decode cX4_spoil 5 = .ok (.ifCond .eq 10, 3) := by decide +kernel
theorem dX4_spoil_8 : decode cX4_spoil 8 = .ok (.iload_n 3, 1) := by decide +kernel
theorem dX4_spoil_9 : decode cX4_spoil 9 = .ok (.invokestatic 162, 3) := by decide +kernel
theorem dX4_spoil_12 : decode cX4_spoil 12 = .ok (.ifCond .ne 13, 3) := by decide +kernel
theorem dX4_spoil_15 : decode cX4_spoil 15 = .ok (.new 55, 3) := by decide +kernel
theorem dX4_spoil_18 : decode cX4_spoil 18 = .ok (.dup, 1) := by decide +kernel
theorem dX4_spoil_19 : decode cX4_spoil 19 = .ok (.ldc 165, 2) := by decide +kernel
theorem dX4_spoil_21 : decode cX4_spoil 21 = .ok (.invokespecial 59, 3) := by decide +kernel
theorem dX4_spoil_24 : decode cX4_spoil 24 = .ok (.athrow, 1) := by decide +kernel
theorem dX4_spoil_25 : decode cX4_spoil 25 = .ok (.iload_n 1, 1) := by decide +kernel
theorem dX4_spoil_26 : decode cX4_spoil 26 = .ok (.iload_n 3, 1) := by decide +kernel
theorem dX4_spoil_27 : decode cX4_spoil 27 = .ok (.invokestatic 167, 3) := by decide +kernel
theorem dX4_spoil_30 : decode cX4_spoil 30 = .ok (.istore 4, 2) := by decide +kernel
theorem dX4_spoil_32 : decode cX4_spoil 32 = .ok (.aload_n 0, 1) := by decide +kernel
theorem dX4_spoil_33 : decode cX4_spoil 33 = .ok (.getfield 12, 3) := by decide +kernel
theorem dX4_spoil_36 : decode cX4_spoil 36 = .ok (.iload_n 1, 1) := by decide +kernel
theorem dX4_spoil_37 : decode cX4_spoil 37 = .ok (.iload_n 2, 1) := by decide +kernel
theorem dX4_spoil_38 : decode cX4_spoil 38 = .ok (.invokevirtual 145, 3) := by decide +kernel
theorem dX4_spoil_41 : decode cX4_spoil 41 = .ok (.ifCond .eq 15, 3) := by decide +kernel
theorem dX4_spoil_44 : decode cX4_spoil 44 = .ok (.aload_n 0, 1) := by decide +kernel
theorem dX4_spoil_45 : decode cX4_spoil 45 = .ok (.getfield 12, 3) := by decide +kernel
theorem dX4_spoil_48 : decode cX4_spoil 48 = .ok (.iload 4, 2) := by decide +kernel
theorem dX4_spoil_50 : decode cX4_spoil 50 = .ok (.invokevirtual 170, 3) := by decide +kernel
theorem dX4_spoil_53 : decode cX4_spoil 53 = .ok (.ifCond .ne 13, 3) := by decide +kernel
theorem dX4_spoil_56 : decode cX4_spoil 56 = .ok (.new 99, 3) := by decide +kernel
theorem dX4_spoil_59 : decode cX4_spoil 59 = .ok (.dup, 1) := by decide +kernel
theorem dX4_spoil_60 : decode cX4_spoil 60 = .ok (.ldc 173, 2) := by decide +kernel
theorem dX4_spoil_62 : decode cX4_spoil 62 = .ok (.invokespecial 103, 3) := by decide +kernel
theorem dX4_spoil_65 : decode cX4_spoil 65 = .ok (.athrow, 1) := by decide +kernel
theorem dX4_spoil_66 : decode cX4_spoil 66 = .ok (.aload_n 0, 1) := by decide +kernel
theorem dX4_spoil_67 : decode cX4_spoil 67 = .ok (.getfield 12, 3) := by decide +kernel
theorem dX4_spoil_70 : decode cX4_spoil 70 = .ok (.iload 4, 2) := by decide +kernel
theorem dX4_spoil_72 : decode cX4_spoil 72 = .ok (.iload_n 2, 1) := by decide +kernel
theorem dX4_spoil_73 : decode cX4_spoil 73 = .ok (.invokevirtual 175, 3) := by decide +kernel
theorem dX4_spoil_76 : decode cX4_spoil 76 = .ok (.ifCond .ne 7, 3) := by decide +kernel
theorem dX4_spoil_79 : decode cX4_spoil 79 = .ok (.iconst 1, 1) := by decide +kernel
theorem dX4_spoil_80 : decode cX4_spoil 80 = .ok (.goto 4, 3) := by decide +kernel
theorem dX4_spoil_83 : decode cX4_spoil 83 = .ok (.iconst 0, 1) := by decide +kernel
theorem dX4_spoil_84 : decode cX4_spoil 84 = .ok (.istore 5, 2) := by decide +kernel
theorem dX4_spoil_86 : decode cX4_spoil 86 = .ok (.aload_n 0, 1) := by decide +kernel
theorem dX4_spoil_87 : decode cX4_spoil 87 = .ok (.getfield 12, 3) := by decide +kernel
theorem dX4_spoil_90 : decode cX4_spoil 90 = .ok (.iload 4, 2) := by decide +kernel
theorem dX4_spoil_92 : decode cX4_spoil 92 = .ok (.iload_n 2, 1) := by decide +kernel
theorem dX4_spoil_93 : decode cX4_spoil 93 = .ok (.iconst 1, 1) := by decide +kernel
theorem dX4_spoil_94 : decode cX4_spoil 94 = .ok (.invokevirtual 178, 3) := by decide +kernel
theorem dX4_spoil_97 : decode cX4_spoil 97 = .ok (.iload 5, 2) := by decide +kernel
theorem dX4_spoil_99 : decode cX4_spoil 99 = .ok (.ireturn, 1) := by decide +kernel
def f_X4_spoil (p1 : Int32) (p2 : Int32) (p3 : Int32) (M : Mem) : ((Bool ⊕ String) × Mem) :=
  if (f_X4_isSideOfMirror p1 p2) then if (f_X4_isCell p3) then if (f_X0_hasOnline p1 p2 M) then if (f_X0_isUsed (f_X4_placeNumber p1 p3) M) then if (f_X0_hasSpoilt (f_X4_placeNumber p1 p3) p2 M) then zlet (f_X0_mark (f_X4_placeNumber p1 p3) p2 true M) (fun N1 =>
            (.inl false, N1))
          else zlet (f_X0_mark (f_X4_placeNumber p1 p3) p2 true M) (fun N2 =>
          (.inl true, N2))
        else (.inr "java/lang/IllegalStateException", M)
      else (.inr "java/lang/IllegalStateException", M)
    else (.inr "java/lang/IllegalArgumentException", M)
  else (.inr "java/lang/IllegalArgumentException", M)
set_option maxRecDepth 100000 in
set_option maxHeartbeats 4000000 in
theorem k_X4_spoil (q : ZQ) (hq : q.1.stackTraces = false) (p1 : Int32) (p2 : Int32) (p3 : Int32) (M : Mem) : Zc (zgX q) mX4_spoil 1 6 [.inr 0, .inl p1, .inl p2, .inl p3] M (xBM (f_X4_spoil p1 p2 p3 M)) := by
  refine Zc.of (by decide) zi_X4_spoil.1 (Nat.le_of_ble_eq_true rfl) rfl ?_
  show Zg _ _ _ _ _ _ (zlet (f_X4_spoil p1 p2 p3 M) xBM) _ _ _ _
  unfold f_X4_spoil
  refine zg_iload_n (x := p1) dX4_spoil_0 rfl ?_
  refine zg_iload_n (x := p2) dX4_spoil_1 rfl ?_
  refine zg_cS1 (As := [.inl p1, .inl p2]) (S := []) (v := bI ((f_X4_isSideOfMirror p1 p2))) dX4_spoil_2 zk_X4_140 (k_X4_isSideOfMirror q p1 p2 M) rfl ⟨by decide, by decide⟩ ⟨by decide, by decide⟩ rfl (Nat.le_of_ble_eq_true rfl) ?_
  refine zg_st (pc' := 5) (L' := [some (.inr 0), some (.inl p1), some (.inl p2), some (.inl p3), none, none]) (S' := [.inl (bI ((f_X4_isSideOfMirror p1 p2)))]) (M' := M) rfl rfl rfl rfl ?_
  refine zg_ifbe (tgt := 15) dX4_spoil_5 rfl (fun c5 => ?_) (fun c5 => ?_)
  · refine zg_st (pc' := 8) (L' := [some (.inr 0), some (.inl p1), some (.inl p2), some (.inl p3), none, none]) (S' := []) (M' := M) rfl rfl rfl rfl ?_
    refine zg_iload_n (x := p3) dX4_spoil_8 rfl ?_
    refine zg_cS1 (As := [.inl p3]) (S := []) (v := bI ((f_X4_isCell p3))) dX4_spoil_9 zk_X4_162 (k_X4_isCell q p3 M) rfl ⟨by decide, by decide⟩ ⟨by decide, by decide⟩ rfl (Nat.le_of_ble_eq_true rfl) ?_
    refine zg_st (pc' := 12) (L' := [some (.inr 0), some (.inl p1), some (.inl p2), some (.inl p3), none, none]) (S' := [.inl (bI ((f_X4_isCell p3)))]) (M' := M) rfl rfl rfl rfl ?_
    refine zg_ifbn (tgt := 25) dX4_spoil_12 rfl (fun c12 => ?_) (fun c12 => ?_)
    · refine zg_st (pc' := 25) (L' := [some (.inr 0), some (.inl p1), some (.inl p2), some (.inl p3), none, none]) (S' := []) (M' := M) rfl rfl rfl rfl ?_
      refine zg_iload_n (x := p1) dX4_spoil_25 rfl ?_
      refine zg_iload_n (x := p3) dX4_spoil_26 rfl ?_
      refine zg_cS1 (As := [.inl p1, .inl p3]) (S := []) (v := (f_X4_placeNumber p1 p3)) dX4_spoil_27 zk_X4_167 (k_X4_placeNumber q p1 p3 M) rfl ⟨by decide, by decide⟩ ⟨by decide, by decide⟩ rfl (Nat.le_of_ble_eq_true rfl) ?_
      refine zg_st (pc' := 30) (L' := [some (.inr 0), some (.inl p1), some (.inl p2), some (.inl p3), none, none]) (S' := [.inl (f_X4_placeNumber p1 p3)]) (M' := M) rfl rfl rfl rfl ?_
      refine zg_istore dX4_spoil_30 (by decide) ?_
      refine zg_st (pc' := 32) (L' := [some (.inr 0), some (.inl p1), some (.inl p2), some (.inl p3), some (.inl (f_X4_placeNumber p1 p3)), none]) (S' := []) (M' := M) rfl rfl rfl rfl ?_
      refine zg_aload_n (x := 0) dX4_spoil_32 rfl ?_
      refine zg_getf (v := .inr 1) dX4_spoil_33 zf_X4_12 rfl rfl rfl ?_
      refine zg_iload_n (x := p1) dX4_spoil_36 rfl ?_
      refine zg_iload_n (x := p2) dX4_spoil_37 rfl ?_
      refine zg_cV1 (As := [.inl p1, .inl p2]) (S := []) (v := bI ((f_X0_hasOnline p1 p2 M))) dX4_spoil_38 zk_X4_145 (k_X0_hasOnline q p1 p2 M) rfl rfl ⟨by decide, by decide⟩ ⟨by decide, by decide⟩ rfl (Nat.le_of_ble_eq_true rfl) ?_
      refine zg_st (pc' := 41) (L' := [some (.inr 0), some (.inl p1), some (.inl p2), some (.inl p3), some (.inl (f_X4_placeNumber p1 p3)), none]) (S' := [.inl (bI ((f_X0_hasOnline p1 p2 M)))]) (M' := M) rfl rfl rfl rfl ?_
      refine zg_ifbe (tgt := 56) dX4_spoil_41 rfl (fun c41 => ?_) (fun c41 => ?_)
      · refine zg_st (pc' := 44) (L' := [some (.inr 0), some (.inl p1), some (.inl p2), some (.inl p3), some (.inl (f_X4_placeNumber p1 p3)), none]) (S' := []) (M' := M) rfl rfl rfl rfl ?_
        refine zg_aload_n (x := 0) dX4_spoil_44 rfl ?_
        refine zg_getf (v := .inr 1) dX4_spoil_45 zf_X4_12 rfl rfl rfl ?_
        refine zg_iload (x := (f_X4_placeNumber p1 p3)) dX4_spoil_48 rfl ?_
        refine zg_cV1 (As := [.inl (f_X4_placeNumber p1 p3)]) (S := []) (v := bI ((f_X0_isUsed (f_X4_placeNumber p1 p3) M))) dX4_spoil_50 zk_X4_170 (k_X0_isUsed q (f_X4_placeNumber p1 p3) M) rfl rfl ⟨by decide, by decide⟩ ⟨by decide, by decide⟩ rfl (Nat.le_of_ble_eq_true rfl) ?_
        refine zg_st (pc' := 53) (L' := [some (.inr 0), some (.inl p1), some (.inl p2), some (.inl p3), some (.inl (f_X4_placeNumber p1 p3)), none]) (S' := [.inl (bI ((f_X0_isUsed (f_X4_placeNumber p1 p3) M)))]) (M' := M) rfl rfl rfl rfl ?_
        refine zg_ifbn (tgt := 66) dX4_spoil_53 rfl (fun c53 => ?_) (fun c53 => ?_)
        · refine zg_st (pc' := 66) (L' := [some (.inr 0), some (.inl p1), some (.inl p2), some (.inl p3), some (.inl (f_X4_placeNumber p1 p3)), none]) (S' := []) (M' := M) rfl rfl rfl rfl ?_
          refine zg_aload_n (x := 0) dX4_spoil_66 rfl ?_
          refine zg_getf (v := .inr 1) dX4_spoil_67 zf_X4_12 rfl rfl rfl ?_
          refine zg_iload (x := (f_X4_placeNumber p1 p3)) dX4_spoil_70 rfl ?_
          refine zg_iload_n (x := p2) dX4_spoil_72 rfl ?_
          refine zg_cV1 (As := [.inl (f_X4_placeNumber p1 p3), .inl p2]) (S := []) (v := bI ((f_X0_hasSpoilt (f_X4_placeNumber p1 p3) p2 M))) dX4_spoil_73 zk_X4_175 (k_X0_hasSpoilt q (f_X4_placeNumber p1 p3) p2 M) rfl rfl ⟨by decide, by decide⟩ ⟨by decide, by decide⟩ rfl (Nat.le_of_ble_eq_true rfl) ?_
          refine zg_st (pc' := 76) (L' := [some (.inr 0), some (.inl p1), some (.inl p2), some (.inl p3), some (.inl (f_X4_placeNumber p1 p3)), none]) (S' := [.inl (bI ((f_X0_hasSpoilt (f_X4_placeNumber p1 p3) p2 M)))]) (M' := M) rfl rfl rfl rfl ?_
          refine zg_ifbn (tgt := 83) dX4_spoil_76 rfl (fun c76 => ?_) (fun c76 => ?_)
          · refine zg_st (pc' := 83) (L' := [some (.inr 0), some (.inl p1), some (.inl p2), some (.inl p3), some (.inl (f_X4_placeNumber p1 p3)), none]) (S' := []) (M' := M) rfl rfl rfl rfl ?_
            refine zg_iconst (v := 0) dX4_spoil_83 rfl ?_
            refine zg_istore dX4_spoil_84 (by decide) ?_
            refine zg_st (pc' := 86) (L' := [some (.inr 0), some (.inl p1), some (.inl p2), some (.inl p3), some (.inl (f_X4_placeNumber p1 p3)), some (.inl 0)]) (S' := []) (M' := M) rfl rfl rfl rfl ?_
            refine zg_aload_n (x := 0) dX4_spoil_86 rfl ?_
            refine zg_getf (v := .inr 1) dX4_spoil_87 zf_X4_12 rfl rfl rfl ?_
            refine zg_iload (x := (f_X4_placeNumber p1 p3)) dX4_spoil_90 rfl ?_
            refine zg_iload_n (x := p2) dX4_spoil_92 rfl ?_
            refine zg_iconst (v := 1) dX4_spoil_93 rfl ?_
            refine zg_cVV (As := [.inl (f_X4_placeNumber p1 p3), .inl p2, .inl 1]) (S := []) dX4_spoil_94 zk_X4_178 (k_X0_mark q (f_X4_placeNumber p1 p3) p2 true M) rfl rfl ⟨by decide, by decide⟩ ⟨by decide, by decide⟩ rfl (Nat.le_of_ble_eq_true rfl) (fun N1 e_N1 => ?_)
            try dsimp only
            refine zg_st (pc' := 97) (L' := [some (.inr 0), some (.inl p1), some (.inl p2), some (.inl p3), some (.inl (f_X4_placeNumber p1 p3)), some (.inl 0)]) (S' := []) (M' := N1) rfl rfl rfl rfl ?_
            refine zg_iload (x := 0) dX4_spoil_97 rfl ?_
            exact zg_iret dX4_spoil_99 rfl rfl ⟨by decide, by decide⟩ rfl
          · refine zg_st (pc' := 79) (L' := [some (.inr 0), some (.inl p1), some (.inl p2), some (.inl p3), some (.inl (f_X4_placeNumber p1 p3)), none]) (S' := []) (M' := M) rfl rfl rfl rfl ?_
            refine zg_iconst (v := 1) dX4_spoil_79 rfl ?_
            refine zg_goto (tgt := 84) dX4_spoil_80 rfl ?_
            refine zg_st (pc' := 84) (L' := [some (.inr 0), some (.inl p1), some (.inl p2), some (.inl p3), some (.inl (f_X4_placeNumber p1 p3)), none]) (S' := [.inl 1]) (M' := M) rfl rfl rfl rfl ?_
            refine zg_istore dX4_spoil_84 (by decide) ?_
            refine zg_st (pc' := 86) (L' := [some (.inr 0), some (.inl p1), some (.inl p2), some (.inl p3), some (.inl (f_X4_placeNumber p1 p3)), some (.inl 1)]) (S' := []) (M' := M) rfl rfl rfl rfl ?_
            refine zg_aload_n (x := 0) dX4_spoil_86 rfl ?_
            refine zg_getf (v := .inr 1) dX4_spoil_87 zf_X4_12 rfl rfl rfl ?_
            refine zg_iload (x := (f_X4_placeNumber p1 p3)) dX4_spoil_90 rfl ?_
            refine zg_iload_n (x := p2) dX4_spoil_92 rfl ?_
            refine zg_iconst (v := 1) dX4_spoil_93 rfl ?_
            refine zg_cVV (As := [.inl (f_X4_placeNumber p1 p3), .inl p2, .inl 1]) (S := []) dX4_spoil_94 zk_X4_178 (k_X0_mark q (f_X4_placeNumber p1 p3) p2 true M) rfl rfl ⟨by decide, by decide⟩ ⟨by decide, by decide⟩ rfl (Nat.le_of_ble_eq_true rfl) (fun N2 e_N2 => ?_)
            try dsimp only
            refine zg_st (pc' := 97) (L' := [some (.inr 0), some (.inl p1), some (.inl p2), some (.inl p3), some (.inl (f_X4_placeNumber p1 p3)), some (.inl 1)]) (S' := []) (M' := N2) rfl rfl rfl rfl ?_
            refine zg_iload (x := 1) dX4_spoil_97 rfl ?_
            exact zg_iret dX4_spoil_99 rfl rfl ⟨by decide, by decide⟩ rfl
        · refine zg_st (pc' := 56) (L' := [some (.inr 0), some (.inl p1), some (.inl p2), some (.inl p3), some (.inl (f_X4_placeNumber p1 p3)), none]) (S' := []) (M' := M) rfl rfl rfl rfl ?_
          exact zg_throw (text := "the side is offline, or the cell is free") hq zt_99 rfl (by decide) dX4_spoil_56 dX4_spoil_59 dX4_spoil_60 dX4_spoil_62 dX4_spoil_65 (by decide) (Nat.le_of_ble_eq_true rfl) (by decide) (by decide) rfl
      · refine zg_st (pc' := 56) (L' := [some (.inr 0), some (.inl p1), some (.inl p2), some (.inl p3), some (.inl (f_X4_placeNumber p1 p3)), none]) (S' := []) (M' := M) rfl rfl rfl rfl ?_
        exact zg_throw (text := "the side is offline, or the cell is free") hq zt_99 rfl (by decide) dX4_spoil_56 dX4_spoil_59 dX4_spoil_60 dX4_spoil_62 dX4_spoil_65 (by decide) (Nat.le_of_ble_eq_true rfl) (by decide) (by decide) rfl
    · refine zg_st (pc' := 15) (L' := [some (.inr 0), some (.inl p1), some (.inl p2), some (.inl p3), none, none]) (S' := []) (M' := M) rfl rfl rfl rfl ?_
      exact zg_throw (text := "mirror, side or cell is out of range") hq zt_55 rfl (by decide) dX4_spoil_15 dX4_spoil_18 dX4_spoil_19 dX4_spoil_21 dX4_spoil_24 (by decide) (Nat.le_of_ble_eq_true rfl) (by decide) (by decide) rfl
  · refine zg_st (pc' := 15) (L' := [some (.inr 0), some (.inl p1), some (.inl p2), some (.inl p3), none, none]) (S' := []) (M' := M) rfl rfl rfl rfl ?_
    exact zg_throw (text := "mirror, side or cell is out of range") hq zt_55 rfl (by decide) dX4_spoil_15 dX4_spoil_18 dX4_spoil_19 dX4_spoil_21 dX4_spoil_24 (by decide) (Nat.le_of_ble_eq_true rfl) (by decide) (by decide) rfl
theorem dX4_isSpoilt_0 : decode cX4_isSpoilt 0 = .ok (.iload_n 1, 1) := by decide +kernel
theorem dX4_isSpoilt_1 : decode cX4_isSpoilt 1 = .ok (.iload_n 2, 1) := by decide +kernel
theorem dX4_isSpoilt_2 : decode cX4_isSpoilt 2 = .ok (.invokestatic 140, 3) := by decide +kernel
theorem dX4_isSpoilt_5 : decode cX4_isSpoilt 5 = .ok (.ifCond .eq 10, 3) := by decide +kernel
theorem dX4_isSpoilt_8 : decode cX4_isSpoilt 8 = .ok (.iload_n 3, 1) := by decide +kernel
theorem dX4_isSpoilt_9 : decode cX4_isSpoilt 9 = .ok (.invokestatic 162, 3) := by decide +kernel
theorem dX4_isSpoilt_12 : decode cX4_isSpoilt 12 = .ok (.ifCond .ne 13, 3) := by decide +kernel
theorem dX4_isSpoilt_15 : decode cX4_isSpoilt 15 = .ok (.new 55, 3) := by decide +kernel
theorem dX4_isSpoilt_18 : decode cX4_isSpoilt 18 = .ok (.dup, 1) := by decide +kernel
theorem dX4_isSpoilt_19 : decode cX4_isSpoilt 19 = .ok (.ldc 165, 2) := by decide +kernel
theorem dX4_isSpoilt_21 : decode cX4_isSpoilt 21 = .ok (.invokespecial 59, 3) := by decide +kernel
theorem dX4_isSpoilt_24 : decode cX4_isSpoilt 24 = .ok (.athrow, 1) := by decide +kernel
theorem dX4_isSpoilt_25 : decode cX4_isSpoilt 25 = .ok (.aload_n 0, 1) := by decide +kernel
theorem dX4_isSpoilt_26 : decode cX4_isSpoilt 26 = .ok (.getfield 12, 3) := by decide +kernel
theorem dX4_isSpoilt_29 : decode cX4_isSpoilt 29 = .ok (.iload_n 1, 1) := by decide +kernel
theorem dX4_isSpoilt_30 : decode cX4_isSpoilt 30 = .ok (.iload_n 2, 1) := by decide +kernel
theorem dX4_isSpoilt_31 : decode cX4_isSpoilt 31 = .ok (.invokevirtual 145, 3) := by decide +kernel
theorem dX4_isSpoilt_34 : decode cX4_isSpoilt 34 = .ok (.ifCond .ne 13, 3) := by decide +kernel
theorem dX4_isSpoilt_37 : decode cX4_isSpoilt 37 = .ok (.new 99, 3) := by decide +kernel
theorem dX4_isSpoilt_40 : decode cX4_isSpoilt 40 = .ok (.dup, 1) := by decide +kernel
theorem dX4_isSpoilt_41 : decode cX4_isSpoilt 41 = .ok (.ldc 182, 2) := by decide +kernel
theorem dX4_isSpoilt_43 : decode cX4_isSpoilt 43 = .ok (.invokespecial 103, 3) := by decide +kernel
theorem dX4_isSpoilt_46 : decode cX4_isSpoilt 46 = .ok (.athrow, 1) := by decide +kernel
theorem dX4_isSpoilt_47 : decode cX4_isSpoilt 47 = .ok (.aload_n 0, 1) := by decide +kernel
theorem dX4_isSpoilt_48 : decode cX4_isSpoilt 48 = .ok (.getfield 12, 3) := by decide +kernel
theorem dX4_isSpoilt_51 : decode cX4_isSpoilt 51 = .ok (.iload_n 1, 1) := by decide +kernel
theorem dX4_isSpoilt_52 : decode cX4_isSpoilt 52 = .ok (.iload_n 3, 1) := by decide +kernel
theorem dX4_isSpoilt_53 : decode cX4_isSpoilt 53 = .ok (.invokestatic 167, 3) := by decide +kernel
theorem dX4_isSpoilt_56 : decode cX4_isSpoilt 56 = .ok (.iload_n 2, 1) := by decide +kernel
theorem dX4_isSpoilt_57 : decode cX4_isSpoilt 57 = .ok (.invokevirtual 175, 3) := by decide +kernel
theorem dX4_isSpoilt_60 : decode cX4_isSpoilt 60 = .ok (.ireturn, 1) := by decide +kernel
def f_X4_isSpoilt (p1 : Int32) (p2 : Int32) (p3 : Int32) (M : Mem) : (Bool ⊕ String) :=
  if (f_X4_isSideOfMirror p1 p2) then if (f_X4_isCell p3) then if (f_X0_hasOnline p1 p2 M) then .inl (f_X0_hasSpoilt (f_X4_placeNumber p1 p3) p2 M)
      else .inr "java/lang/IllegalStateException"
    else .inr "java/lang/IllegalArgumentException"
  else .inr "java/lang/IllegalArgumentException"
set_option maxRecDepth 100000 in
set_option maxHeartbeats 4000000 in
theorem k_X4_isSpoilt (q : ZQ) (hq : q.1.stackTraces = false) (p1 : Int32) (p2 : Int32) (p3 : Int32) (M : Mem) : Zc (zgX q) mX4_isSpoilt 1 6 [.inr 0, .inl p1, .inl p2, .inl p3] M (xB M (f_X4_isSpoilt p1 p2 p3 M)) := by
  refine Zc.of (by decide) zi_X4_isSpoilt.1 (Nat.le_of_ble_eq_true rfl) rfl ?_
  show Zg _ _ _ _ _ _ (zlet (f_X4_isSpoilt p1 p2 p3 M) (xB M)) _ _ _ _
  unfold f_X4_isSpoilt
  refine zg_iload_n (x := p1) dX4_isSpoilt_0 rfl ?_
  refine zg_iload_n (x := p2) dX4_isSpoilt_1 rfl ?_
  refine zg_cS1 (As := [.inl p1, .inl p2]) (S := []) (v := bI ((f_X4_isSideOfMirror p1 p2))) dX4_isSpoilt_2 zk_X4_140 (k_X4_isSideOfMirror q p1 p2 M) rfl ⟨by decide, by decide⟩ ⟨by decide, by decide⟩ rfl (Nat.le_of_ble_eq_true rfl) ?_
  refine zg_st (pc' := 5) (L' := [some (.inr 0), some (.inl p1), some (.inl p2), some (.inl p3)]) (S' := [.inl (bI ((f_X4_isSideOfMirror p1 p2)))]) (M' := M) rfl rfl rfl rfl ?_
  refine zg_ifbe (tgt := 15) dX4_isSpoilt_5 rfl (fun c5 => ?_) (fun c5 => ?_)
  · refine zg_st (pc' := 8) (L' := [some (.inr 0), some (.inl p1), some (.inl p2), some (.inl p3)]) (S' := []) (M' := M) rfl rfl rfl rfl ?_
    refine zg_iload_n (x := p3) dX4_isSpoilt_8 rfl ?_
    refine zg_cS1 (As := [.inl p3]) (S := []) (v := bI ((f_X4_isCell p3))) dX4_isSpoilt_9 zk_X4_162 (k_X4_isCell q p3 M) rfl ⟨by decide, by decide⟩ ⟨by decide, by decide⟩ rfl (Nat.le_of_ble_eq_true rfl) ?_
    refine zg_st (pc' := 12) (L' := [some (.inr 0), some (.inl p1), some (.inl p2), some (.inl p3)]) (S' := [.inl (bI ((f_X4_isCell p3)))]) (M' := M) rfl rfl rfl rfl ?_
    refine zg_ifbn (tgt := 25) dX4_isSpoilt_12 rfl (fun c12 => ?_) (fun c12 => ?_)
    · refine zg_st (pc' := 25) (L' := [some (.inr 0), some (.inl p1), some (.inl p2), some (.inl p3)]) (S' := []) (M' := M) rfl rfl rfl rfl ?_
      refine zg_aload_n (x := 0) dX4_isSpoilt_25 rfl ?_
      refine zg_getf (v := .inr 1) dX4_isSpoilt_26 zf_X4_12 rfl rfl rfl ?_
      refine zg_iload_n (x := p1) dX4_isSpoilt_29 rfl ?_
      refine zg_iload_n (x := p2) dX4_isSpoilt_30 rfl ?_
      refine zg_cV1 (As := [.inl p1, .inl p2]) (S := []) (v := bI ((f_X0_hasOnline p1 p2 M))) dX4_isSpoilt_31 zk_X4_145 (k_X0_hasOnline q p1 p2 M) rfl rfl ⟨by decide, by decide⟩ ⟨by decide, by decide⟩ rfl (Nat.le_of_ble_eq_true rfl) ?_
      refine zg_st (pc' := 34) (L' := [some (.inr 0), some (.inl p1), some (.inl p2), some (.inl p3)]) (S' := [.inl (bI ((f_X0_hasOnline p1 p2 M)))]) (M' := M) rfl rfl rfl rfl ?_
      refine zg_ifbn (tgt := 47) dX4_isSpoilt_34 rfl (fun c34 => ?_) (fun c34 => ?_)
      · refine zg_st (pc' := 47) (L' := [some (.inr 0), some (.inl p1), some (.inl p2), some (.inl p3)]) (S' := []) (M' := M) rfl rfl rfl rfl ?_
        refine zg_aload_n (x := 0) dX4_isSpoilt_47 rfl ?_
        refine zg_getf (v := .inr 1) dX4_isSpoilt_48 zf_X4_12 rfl rfl rfl ?_
        refine zg_iload_n (x := p1) dX4_isSpoilt_51 rfl ?_
        refine zg_iload_n (x := p3) dX4_isSpoilt_52 rfl ?_
        refine zg_cS1 (As := [.inl p1, .inl p3]) (S := [.inr 1]) (v := (f_X4_placeNumber p1 p3)) dX4_isSpoilt_53 zk_X4_167 (k_X4_placeNumber q p1 p3 M) rfl ⟨by decide, by decide⟩ ⟨by decide, by decide⟩ rfl (Nat.le_of_ble_eq_true rfl) ?_
        refine zg_st (pc' := 56) (L' := [some (.inr 0), some (.inl p1), some (.inl p2), some (.inl p3)]) (S' := [.inl (f_X4_placeNumber p1 p3), .inr 1]) (M' := M) rfl rfl rfl rfl ?_
        refine zg_iload_n (x := p2) dX4_isSpoilt_56 rfl ?_
        refine zg_cV1 (As := [.inl (f_X4_placeNumber p1 p3), .inl p2]) (S := []) (v := bI ((f_X0_hasSpoilt (f_X4_placeNumber p1 p3) p2 M))) dX4_isSpoilt_57 zk_X4_175 (k_X0_hasSpoilt q (f_X4_placeNumber p1 p3) p2 M) rfl rfl ⟨by decide, by decide⟩ ⟨by decide, by decide⟩ rfl (Nat.le_of_ble_eq_true rfl) ?_
        refine zg_st (pc' := 60) (L' := [some (.inr 0), some (.inl p1), some (.inl p2), some (.inl p3)]) (S' := [.inl (bI ((f_X0_hasSpoilt (f_X4_placeNumber p1 p3) p2 M)))]) (M' := M) rfl rfl rfl rfl ?_
        exact zg_iret dX4_isSpoilt_60 rfl (bI_nar _) ⟨by decide, by decide⟩ rfl
      · refine zg_st (pc' := 37) (L' := [some (.inr 0), some (.inl p1), some (.inl p2), some (.inl p3)]) (S' := []) (M' := M) rfl rfl rfl rfl ?_
        exact zg_throw (text := "the side is offline") hq zt_99 rfl (by decide) dX4_isSpoilt_37 dX4_isSpoilt_40 dX4_isSpoilt_41 dX4_isSpoilt_43 dX4_isSpoilt_46 (by decide) (Nat.le_of_ble_eq_true rfl) (by decide) (by decide) rfl
    · refine zg_st (pc' := 15) (L' := [some (.inr 0), some (.inl p1), some (.inl p2), some (.inl p3)]) (S' := []) (M' := M) rfl rfl rfl rfl ?_
      exact zg_throw (text := "mirror, side or cell is out of range") hq zt_55 rfl (by decide) dX4_isSpoilt_15 dX4_isSpoilt_18 dX4_isSpoilt_19 dX4_isSpoilt_21 dX4_isSpoilt_24 (by decide) (Nat.le_of_ble_eq_true rfl) (by decide) (by decide) rfl
  · refine zg_st (pc' := 15) (L' := [some (.inr 0), some (.inl p1), some (.inl p2), some (.inl p3)]) (S' := []) (M' := M) rfl rfl rfl rfl ?_
    exact zg_throw (text := "mirror, side or cell is out of range") hq zt_55 rfl (by decide) dX4_isSpoilt_15 dX4_isSpoilt_18 dX4_isSpoilt_19 dX4_isSpoilt_21 dX4_isSpoilt_24 (by decide) (Nat.le_of_ble_eq_true rfl) (by decide) (by decide) rfl
theorem dX4_isFree_0 : decode cX4_isFree 0 = .ok (.iload_n 1, 1) := by decide +kernel
theorem dX4_isFree_1 : decode cX4_isFree 1 = .ok (.invokestatic 184, 3) := by decide +kernel
theorem dX4_isFree_4 : decode cX4_isFree 4 = .ok (.ifCond .eq 10, 3) := by decide +kernel
theorem dX4_isFree_7 : decode cX4_isFree 7 = .ok (.iload_n 2, 1) := by decide +kernel
theorem dX4_isFree_8 : decode cX4_isFree 8 = .ok (.invokestatic 162, 3) := by decide +kernel
theorem dX4_isFree_11 : decode cX4_isFree 11 = .ok (.ifCond .ne 13, 3) := by decide +kernel
theorem dX4_isFree_14 : decode cX4_isFree 14 = .ok (.new 55, 3) := by decide +kernel
theorem dX4_isFree_17 : decode cX4_isFree 17 = .ok (.dup, 1) := by decide +kernel
theorem dX4_isFree_18 : decode cX4_isFree 18 = .ok (.ldc 187, 2) := by decide +kernel
theorem dX4_isFree_20 : decode cX4_isFree 20 = .ok (.invokespecial 59, 3) := by decide +kernel
theorem dX4_isFree_23 : decode cX4_isFree 23 = .ok (.athrow, 1) := by decide +kernel
theorem dX4_isFree_24 : decode cX4_isFree 24 = .ok (.aload_n 0, 1) := by decide +kernel
theorem dX4_isFree_25 : decode cX4_isFree 25 = .ok (.getfield 12, 3) := by decide +kernel
theorem dX4_isFree_28 : decode cX4_isFree 28 = .ok (.iload_n 1, 1) := by decide +kernel
theorem dX4_isFree_29 : decode cX4_isFree 29 = .ok (.iload_n 2, 1) := by decide +kernel
theorem dX4_isFree_30 : decode cX4_isFree 30 = .ok (.invokestatic 167, 3) := by decide +kernel
theorem dX4_isFree_33 : decode cX4_isFree 33 = .ok (.invokevirtual 170, 3) := by decide +kernel
theorem dX4_isFree_36 : decode cX4_isFree 36 = .ok (.ifCond .ne 7, 3) := by decide +kernel
theorem dX4_isFree_39 : decode cX4_isFree 39 = .ok (.iconst 1, 1) := by decide +kernel
theorem dX4_isFree_40 : decode cX4_isFree 40 = .ok (.goto 4, 3) := by decide +kernel
theorem dX4_isFree_43 : decode cX4_isFree 43 = .ok (.iconst 0, 1) := by decide +kernel
theorem dX4_isFree_44 : decode cX4_isFree 44 = .ok (.ireturn, 1) := by decide +kernel
def f_X4_isFree (p1 : Int32) (p2 : Int32) (M : Mem) : (Bool ⊕ String) :=
  if (f_X4_isMirror p1) then if (f_X4_isCell p2) then if (f_X0_isUsed (f_X4_placeNumber p1 p2) M) then .inl false
      else .inl true
    else .inr "java/lang/IllegalArgumentException"
  else .inr "java/lang/IllegalArgumentException"
set_option maxRecDepth 100000 in
set_option maxHeartbeats 4000000 in
theorem k_X4_isFree (q : ZQ) (hq : q.1.stackTraces = false) (p1 : Int32) (p2 : Int32) (M : Mem) : Zc (zgX q) mX4_isFree 1 6 [.inr 0, .inl p1, .inl p2] M (xB M (f_X4_isFree p1 p2 M)) := by
  refine Zc.of (by decide) zi_X4_isFree.1 (Nat.le_of_ble_eq_true rfl) rfl ?_
  show Zg _ _ _ _ _ _ (zlet (f_X4_isFree p1 p2 M) (xB M)) _ _ _ _
  unfold f_X4_isFree
  refine zg_iload_n (x := p1) dX4_isFree_0 rfl ?_
  refine zg_cS1 (As := [.inl p1]) (S := []) (v := bI ((f_X4_isMirror p1))) dX4_isFree_1 zk_X4_184 (k_X4_isMirror q p1 M) rfl ⟨by decide, by decide⟩ ⟨by decide, by decide⟩ rfl (Nat.le_of_ble_eq_true rfl) ?_
  refine zg_st (pc' := 4) (L' := [some (.inr 0), some (.inl p1), some (.inl p2)]) (S' := [.inl (bI ((f_X4_isMirror p1)))]) (M' := M) rfl rfl rfl rfl ?_
  refine zg_ifbe (tgt := 14) dX4_isFree_4 rfl (fun c4 => ?_) (fun c4 => ?_)
  · refine zg_st (pc' := 7) (L' := [some (.inr 0), some (.inl p1), some (.inl p2)]) (S' := []) (M' := M) rfl rfl rfl rfl ?_
    refine zg_iload_n (x := p2) dX4_isFree_7 rfl ?_
    refine zg_cS1 (As := [.inl p2]) (S := []) (v := bI ((f_X4_isCell p2))) dX4_isFree_8 zk_X4_162 (k_X4_isCell q p2 M) rfl ⟨by decide, by decide⟩ ⟨by decide, by decide⟩ rfl (Nat.le_of_ble_eq_true rfl) ?_
    refine zg_st (pc' := 11) (L' := [some (.inr 0), some (.inl p1), some (.inl p2)]) (S' := [.inl (bI ((f_X4_isCell p2)))]) (M' := M) rfl rfl rfl rfl ?_
    refine zg_ifbn (tgt := 24) dX4_isFree_11 rfl (fun c11 => ?_) (fun c11 => ?_)
    · refine zg_st (pc' := 24) (L' := [some (.inr 0), some (.inl p1), some (.inl p2)]) (S' := []) (M' := M) rfl rfl rfl rfl ?_
      refine zg_aload_n (x := 0) dX4_isFree_24 rfl ?_
      refine zg_getf (v := .inr 1) dX4_isFree_25 zf_X4_12 rfl rfl rfl ?_
      refine zg_iload_n (x := p1) dX4_isFree_28 rfl ?_
      refine zg_iload_n (x := p2) dX4_isFree_29 rfl ?_
      refine zg_cS1 (As := [.inl p1, .inl p2]) (S := [.inr 1]) (v := (f_X4_placeNumber p1 p2)) dX4_isFree_30 zk_X4_167 (k_X4_placeNumber q p1 p2 M) rfl ⟨by decide, by decide⟩ ⟨by decide, by decide⟩ rfl (Nat.le_of_ble_eq_true rfl) ?_
      refine zg_st (pc' := 33) (L' := [some (.inr 0), some (.inl p1), some (.inl p2)]) (S' := [.inl (f_X4_placeNumber p1 p2), .inr 1]) (M' := M) rfl rfl rfl rfl ?_
      refine zg_cV1 (As := [.inl (f_X4_placeNumber p1 p2)]) (S := []) (v := bI ((f_X0_isUsed (f_X4_placeNumber p1 p2) M))) dX4_isFree_33 zk_X4_170 (k_X0_isUsed q (f_X4_placeNumber p1 p2) M) rfl rfl ⟨by decide, by decide⟩ ⟨by decide, by decide⟩ rfl (Nat.le_of_ble_eq_true rfl) ?_
      refine zg_st (pc' := 36) (L' := [some (.inr 0), some (.inl p1), some (.inl p2)]) (S' := [.inl (bI ((f_X0_isUsed (f_X4_placeNumber p1 p2) M)))]) (M' := M) rfl rfl rfl rfl ?_
      refine zg_ifbn (tgt := 43) dX4_isFree_36 rfl (fun c36 => ?_) (fun c36 => ?_)
      · refine zg_st (pc' := 43) (L' := [some (.inr 0), some (.inl p1), some (.inl p2)]) (S' := []) (M' := M) rfl rfl rfl rfl ?_
        refine zg_iconst (v := 0) dX4_isFree_43 rfl ?_
        exact zg_iret dX4_isFree_44 rfl rfl ⟨by decide, by decide⟩ rfl
      · refine zg_st (pc' := 39) (L' := [some (.inr 0), some (.inl p1), some (.inl p2)]) (S' := []) (M' := M) rfl rfl rfl rfl ?_
        refine zg_iconst (v := 1) dX4_isFree_39 rfl ?_
        refine zg_goto (tgt := 44) dX4_isFree_40 rfl ?_
        refine zg_st (pc' := 44) (L' := [some (.inr 0), some (.inl p1), some (.inl p2)]) (S' := [.inl 1]) (M' := M) rfl rfl rfl rfl ?_
        exact zg_iret dX4_isFree_44 rfl rfl ⟨by decide, by decide⟩ rfl
    · refine zg_st (pc' := 14) (L' := [some (.inr 0), some (.inl p1), some (.inl p2)]) (S' := []) (M' := M) rfl rfl rfl rfl ?_
      exact zg_throw (text := "mirror or cell is out of range") hq zt_55 rfl (by decide) dX4_isFree_14 dX4_isFree_17 dX4_isFree_18 dX4_isFree_20 dX4_isFree_23 (by decide) (Nat.le_of_ble_eq_true rfl) (by decide) (by decide) rfl
  · refine zg_st (pc' := 14) (L' := [some (.inr 0), some (.inl p1), some (.inl p2)]) (S' := []) (M' := M) rfl rfl rfl rfl ?_
    exact zg_throw (text := "mirror or cell is out of range") hq zt_55 rfl (by decide) dX4_isFree_14 dX4_isFree_17 dX4_isFree_18 dX4_isFree_20 dX4_isFree_23 (by decide) (Nat.le_of_ble_eq_true rfl) (by decide) (by decide) rfl
theorem dX4_free_0 : decode cX4_free 0 = .ok (.iload_n 1, 1) := by decide +kernel
theorem dX4_free_1 : decode cX4_free 1 = .ok (.invokestatic 184, 3) := by decide +kernel
theorem dX4_free_4 : decode cX4_free 4 = .ok (.ifCond .ne 13, 3) := by decide +kernel
theorem dX4_free_7 : decode cX4_free 7 = .ok (.new 55, 3) := by decide +kernel
theorem dX4_free_10 : decode cX4_free 10 = .ok (.dup, 1) := by decide +kernel
theorem dX4_free_11 : decode cX4_free 11 = .ok (.ldc 189, 2) := by decide +kernel
theorem dX4_free_13 : decode cX4_free 13 = .ok (.invokespecial 59, 3) := by decide +kernel
theorem dX4_free_16 : decode cX4_free 16 = .ok (.athrow, 1) := by decide +kernel
theorem dX4_free_17 : decode cX4_free 17 = .ok (.aload_n 0, 1) := by decide +kernel
theorem dX4_free_18 : decode cX4_free 18 = .ok (.getfield 12, 3) := by decide +kernel
theorem dX4_free_21 : decode cX4_free 21 = .ok (.iload_n 1, 1) := by decide +kernel
theorem dX4_free_22 : decode cX4_free 22 = .ok (.invokevirtual 191, 3) := by decide +kernel
theorem dX4_free_25 : decode cX4_free 25 = .ok (.ireturn, 1) := by decide +kernel
def f_X4_free (p1 : Int32) (M : Mem) : (Int32 ⊕ String) :=
  if (f_X4_isMirror p1) then .inl (f_X0_countFree p1 M)
  else .inr "java/lang/IllegalArgumentException"
set_option maxRecDepth 100000 in
set_option maxHeartbeats 4000000 in
theorem k_X4_free (q : ZQ) (hq : q.1.stackTraces = false) (p1 : Int32) (M : Mem) : Zc (zgX q) mX4_free 1 6 [.inr 0, .inl p1] M (xI M (f_X4_free p1 M)) := by
  refine Zc.of (by decide) zi_X4_free.1 (Nat.le_of_ble_eq_true rfl) rfl ?_
  show Zg _ _ _ _ _ _ (zlet (f_X4_free p1 M) (xI M)) _ _ _ _
  unfold f_X4_free
  refine zg_iload_n (x := p1) dX4_free_0 rfl ?_
  refine zg_cS1 (As := [.inl p1]) (S := []) (v := bI ((f_X4_isMirror p1))) dX4_free_1 zk_X4_184 (k_X4_isMirror q p1 M) rfl ⟨by decide, by decide⟩ ⟨by decide, by decide⟩ rfl (Nat.le_of_ble_eq_true rfl) ?_
  refine zg_st (pc' := 4) (L' := [some (.inr 0), some (.inl p1)]) (S' := [.inl (bI ((f_X4_isMirror p1)))]) (M' := M) rfl rfl rfl rfl ?_
  refine zg_ifbn (tgt := 17) dX4_free_4 rfl (fun c4 => ?_) (fun c4 => ?_)
  · refine zg_st (pc' := 17) (L' := [some (.inr 0), some (.inl p1)]) (S' := []) (M' := M) rfl rfl rfl rfl ?_
    refine zg_aload_n (x := 0) dX4_free_17 rfl ?_
    refine zg_getf (v := .inr 1) dX4_free_18 zf_X4_12 rfl rfl rfl ?_
    refine zg_iload_n (x := p1) dX4_free_21 rfl ?_
    refine zg_cV1 (As := [.inl p1]) (S := []) (v := (f_X0_countFree p1 M)) dX4_free_22 zk_X4_191 (k_X0_countFree q p1 M) rfl rfl ⟨by decide, by decide⟩ ⟨by decide, by decide⟩ rfl (Nat.le_of_ble_eq_true rfl) ?_
    refine zg_st (pc' := 25) (L' := [some (.inr 0), some (.inl p1)]) (S' := [.inl (f_X0_countFree p1 M)]) (M' := M) rfl rfl rfl rfl ?_
    exact zg_iret dX4_free_25 rfl rfl ⟨by decide, by decide⟩ rfl
  · refine zg_st (pc' := 7) (L' := [some (.inr 0), some (.inl p1)]) (S' := []) (M' := M) rfl rfl rfl rfl ?_
    exact zg_throw (text := "mirror is out of range") hq zt_55 rfl (by decide) dX4_free_7 dX4_free_10 dX4_free_11 dX4_free_13 dX4_free_16 (by decide) (Nat.le_of_ble_eq_true rfl) (by decide) (by decide) rfl
theorem dX4_scrub_0 : decode cX4_scrub 0 = .ok (.iconst 0, 1) := by decide +kernel
theorem dX4_scrub_1 : decode cX4_scrub 1 = .ok (.istore_n 1, 1) := by decide +kernel
theorem dX4_scrub_2 : decode cX4_scrub 2 = .ok (.aload_n 0, 1) := by decide +kernel
theorem dX4_scrub_3 : decode cX4_scrub 3 = .ok (.bipush 52, 2) := by decide +kernel
theorem dX4_scrub_5 : decode cX4_scrub 5 = .ok (.invokevirtual 194, 3) := by decide +kernel
theorem dX4_scrub_8 : decode cX4_scrub 8 = .ok (.ifCond .eq 33, 3) := by decide +kernel
theorem dX4_scrub_11 : decode cX4_scrub 11 = .ok (.iload_n 1, 1) := by decide +kernel
theorem dX4_scrub_12 : decode cX4_scrub 12 = .ok (.aload_n 0, 1) := by decide +kernel
theorem dX4_scrub_13 : decode cX4_scrub 13 = .ok (.bipush 52, 2) := by decide +kernel
theorem dX4_scrub_15 : decode cX4_scrub 15 = .ok (.invokevirtual 197, 3) := by decide +kernel
theorem dX4_scrub_18 : decode cX4_scrub 18 = .ok (.iadd, 1) := by decide +kernel
theorem dX4_scrub_19 : decode cX4_scrub 19 = .ok (.istore_n 1, 1) := by decide +kernel
theorem dX4_scrub_20 : decode cX4_scrub 20 = .ok (.iconst 0, 1) := by decide +kernel
theorem dX4_scrub_21 : decode cX4_scrub 21 = .ok (.istore_n 2, 1) := by decide +kernel
theorem dX4_scrub_22 : decode cX4_scrub 22 = .ok (.iload_n 2, 1) := by decide +kernel
theorem dX4_scrub_23 : decode cX4_scrub 23 = .ok (.iconst 4, 1) := by decide +kernel
theorem dX4_scrub_24 : decode cX4_scrub 24 = .ok (.if_icmp .ge 17, 3) := by decide +kernel
theorem dX4_scrub_27 : decode cX4_scrub 27 = .ok (.iload_n 1, 1) := by decide +kernel
theorem dX4_scrub_28 : decode cX4_scrub 28 = .ok (.aload_n 0, 1) := by decide +kernel
theorem dX4_scrub_29 : decode cX4_scrub 29 = .ok (.iload_n 2, 1) := by decide +kernel
theorem dX4_scrub_30 : decode cX4_scrub 30 = .ok (.invokevirtual 200, 3) := by decide +kernel
theorem dX4_scrub_33 : decode cX4_scrub 33 = .ok (.iadd, 1) := by decide +kernel
theorem dX4_scrub_34 : decode cX4_scrub 34 = .ok (.istore_n 1, 1) := by decide +kernel
theorem dX4_scrub_35 : decode cX4_scrub 35 = .ok (.iinc 2 1, 3) := by decide +kernel
theorem dX4_scrub_38 : decode cX4_scrub 38 = .ok (.goto (-16), 3) := by decide +kernel
theorem dX4_scrub_41 : decode cX4_scrub 41 = .ok (.aload_n 0, 1) := by decide +kernel
theorem dX4_scrub_42 : decode cX4_scrub 42 = .ok (.dup, 1) := by decide +kernel
theorem dX4_scrub_43 : decode cX4_scrub 43 = .ok (.getfield 47, 3) := by decide +kernel
theorem dX4_scrub_46 : decode cX4_scrub 46 = .ok (.iload_n 1, 1) := by decide +kernel
theorem dX4_scrub_47 : decode cX4_scrub 47 = .ok (.iadd, 1) := by decide +kernel
theorem dX4_scrub_48 : decode cX4_scrub 48 = .ok (.putfield 47, 3) := by decide +kernel
theorem dX4_scrub_51 : decode cX4_scrub 51 = .ok (.iload_n 1, 1) := by decide +kernel
theorem dX4_scrub_52 : decode cX4_scrub 52 = .ok (.ireturn, 1) := by decide +kernel
def b_X4_scrub_22 (rec : Int32 → Int32 → Mem → Int32 × Int32 × Mem) (v1 : Int32) (v2 : Int32) (N : Mem) : Int32 × Int32 × Mem :=
  if 4 ≤ v2 then (v1, v2, N)
  else zlet (f_X4_scrubFile v2 N) (fun q2 =>
  rec (v1 + q2.1) (v2 + 1) q2.2)
def l_X4_scrub_22 : Nat → Int32 → Int32 → Mem → Int32 × Int32 × Mem
  | 0, v1, v2, N => (v1, v2, N)
  | n + 1, v1, v2, N => b_X4_scrub_22 (l_X4_scrub_22 n) v1 v2 N
set_option maxRecDepth 100000 in
set_option maxHeartbeats 4000000 in
theorem kl_X4_scrub_22 (q : ZQ) {K : Int32 × Int32 × Mem → ZR} (hx : ∀ e : Int32 × Int32 × Mem, Zg (zgX q) mX4_scrub 0 0 0 0 (K e) 41 [some (.inr 0), some (.inl e.1), some (.inl e.2.1)] [] e.2.2) :
    ∀ (n : Nat) (v1 : Int32) (v2 : Int32) (N : Mem), ((4 : Int32).toInt - (v2 : Int32).toInt).toNat < n → Zg (zgX q) mX4_scrub 0 0 0 0 (zlet (l_X4_scrub_22 n v1 v2 N) K) 22 [some (.inr 0), some (.inl v1), some (.inl v2)] [] N := by
  intro n
  induction n with
  | zero => intro v1 v2 N hm; exact absurd hm (Nat.not_lt_zero _)
  | succ n ih =>
    intro v1 v2 N hm
    show Zg _ _ _ _ _ _ (zlet (b_X4_scrub_22 (l_X4_scrub_22 n) v1 v2 N) K) _ _ _ _
    unfold b_X4_scrub_22
    refine zg_iload_n (x := v2) dX4_scrub_22 rfl ?_
    refine zg_iconst (v := 4) dX4_scrub_23 rfl ?_
    refine zg_icmpz (tgt := 41) dX4_scrub_24 rfl rfl (fun c24 => ?_) (fun c24 => ?_)
    · refine zg_st (pc' := 41) (L' := [some (.inr 0), some (.inl v1), some (.inl v2)]) (S' := []) (M' := N) rfl rfl rfl rfl ?_
      refine zg_drop (L' := [some (.inr 0), some (.inl v1), some (.inl v2)]) ⟨rfl, rfl, rfl, trivial⟩ ?_
      exact hx (v1, v2, N)
    · refine zg_st (pc' := 27) (L' := [some (.inr 0), some (.inl v1), some (.inl v2)]) (S' := []) (M' := N) rfl rfl rfl rfl ?_
      refine zg_iload_n (x := v1) dX4_scrub_27 rfl ?_
      refine zg_aload_n (x := 0) dX4_scrub_28 rfl ?_
      refine zg_iload_n (x := v2) dX4_scrub_29 rfl ?_
      refine zg_cVIM (As := [.inl v2]) (S := [.inl v1]) dX4_scrub_30 zk_X4_200 (k_X4_scrubFile q v2 N) rfl rfl ⟨by decide, by decide⟩ ⟨by decide, by decide⟩ rfl (Nat.le_of_ble_eq_true rfl) (fun q2 e_q2 => ?_)
      try dsimp only
      refine zg_st (pc' := 33) (L' := [some (.inr 0), some (.inl v1), some (.inl v2)]) (S' := [.inl q2.1, .inl v1]) (M' := q2.2) rfl rfl rfl rfl ?_
      refine zg_iadd dX4_scrub_33 ?_
      refine zg_istore_n dX4_scrub_34 (by decide) ?_
      refine zg_st (pc' := 35) (L' := [some (.inr 0), some (.inl (v1 + q2.1)), some (.inl v2)]) (S' := []) (M' := q2.2) rfl rfl rfl rfl ?_
      refine zg_iinc (v := (v2 + 1)) dX4_scrub_35 rfl (by decide) rfl ?_
      refine zg_st (pc' := 38) (L' := [some (.inr 0), some (.inl (v1 + q2.1)), some (.inl (v2 + 1))]) (S' := []) (M' := q2.2) rfl rfl rfl rfl ?_
      refine zg_goto (tgt := 22) dX4_scrub_38 rfl ?_
      refine zg_st (pc' := 22) (L' := [some (.inr 0), some (.inl (v1 + q2.1)), some (.inl (v2 + 1))]) (S' := []) (M' := q2.2) rfl rfl rfl rfl ?_
      refine zg_drop (L' := [some (.inr 0), some (.inl (v1 + q2.1)), some (.inl (v2 + 1))]) ⟨rfl, rfl, rfl, trivial⟩ ?_
      exact ih (v1 + q2.1) (v2 + 1) q2.2 (z_up c24 hm)
def f_X4_scrub (M : Mem) : (Int32 × Mem) :=
  if (f_X4_canFetch 52 M) then zlet (f_X4_healEveryCell 52 M) (fun q1 =>
    zlet (l_X4_scrub_22 5 (0 + q1.1) 0 q1.2) (fun s3 =>
      (s3.1, (mup s3.2.2 0 5 ((s3.2.2 0 5) + s3.1)))))
  else (0, (mup M 0 5 ((M 0 5) + 0)))
set_option maxRecDepth 100000 in
set_option maxHeartbeats 4000000 in
theorem k_X4_scrub (q : ZQ) (M : Mem) : Zc (zgX q) mX4_scrub 0 0 [.inr 0] M (wIM (f_X4_scrub M)) := by
  refine Zc.of (by decide) zi_X4_scrub.1 (Nat.le_of_ble_eq_true rfl) rfl ?_
  show Zg _ _ _ _ _ _ (zlet (f_X4_scrub M) wIM) _ _ _ _
  unfold f_X4_scrub
  refine zg_iconst (v := 0) dX4_scrub_0 rfl ?_
  refine zg_istore_n dX4_scrub_1 (by decide) ?_
  refine zg_st (pc' := 2) (L' := [some (.inr 0), some (.inl 0), none]) (S' := []) (M' := M) rfl rfl rfl rfl ?_
  refine zg_aload_n (x := 0) dX4_scrub_2 rfl ?_
  refine zg_bipush (v := 52) dX4_scrub_3 rfl ?_
  refine zg_cV1 (As := [.inl 52]) (S := []) (v := bI ((f_X4_canFetch 52 M))) dX4_scrub_5 zk_X4_194 (k_X4_canFetch q 52 M) rfl rfl ⟨by decide, by decide⟩ ⟨by decide, by decide⟩ rfl (Nat.le_of_ble_eq_true rfl) ?_
  refine zg_st (pc' := 8) (L' := [some (.inr 0), some (.inl 0), none]) (S' := [.inl (bI ((f_X4_canFetch 52 M)))]) (M' := M) rfl rfl rfl rfl ?_
  refine zg_ifbe (tgt := 41) dX4_scrub_8 rfl (fun c8 => ?_) (fun c8 => ?_)
  · refine zg_st (pc' := 11) (L' := [some (.inr 0), some (.inl 0), none]) (S' := []) (M' := M) rfl rfl rfl rfl ?_
    refine zg_iload_n (x := 0) dX4_scrub_11 rfl ?_
    refine zg_aload_n (x := 0) dX4_scrub_12 rfl ?_
    refine zg_bipush (v := 52) dX4_scrub_13 rfl ?_
    refine zg_cVIM (As := [.inl 52]) (S := [.inl 0]) dX4_scrub_15 zk_X4_197 (k_X4_healEveryCell q 52 M) rfl rfl ⟨by decide, by decide⟩ ⟨by decide, by decide⟩ rfl (Nat.le_of_ble_eq_true rfl) (fun q1 e_q1 => ?_)
    try dsimp only
    refine zg_st (pc' := 18) (L' := [some (.inr 0), some (.inl 0), none]) (S' := [.inl q1.1, .inl 0]) (M' := q1.2) rfl rfl rfl rfl ?_
    refine zg_iadd dX4_scrub_18 ?_
    refine zg_istore_n dX4_scrub_19 (by decide) ?_
    refine zg_st (pc' := 20) (L' := [some (.inr 0), some (.inl (0 + q1.1)), none]) (S' := []) (M' := q1.2) rfl rfl rfl rfl ?_
    refine zg_iconst (v := 0) dX4_scrub_20 rfl ?_
    refine zg_istore_n dX4_scrub_21 (by decide) ?_
    refine zg_st (pc' := 22) (L' := [some (.inr 0), some (.inl (0 + q1.1)), some (.inl 0)]) (S' := []) (M' := q1.2) rfl rfl rfl rfl ?_
    refine zg_asc ?_
    refine zg_drop (L' := [some (.inr 0), some (.inl (0 + q1.1)), some (.inl 0)]) ⟨rfl, rfl, rfl, trivial⟩ ?_
    refine kl_X4_scrub_22 q  (fun s3 => ?_) 5 (0 + q1.1) 0 q1.2 (by decide)
    try dsimp only [Sum.elim_inr]
    refine zg_st (pc' := 41) (L' := [some (.inr 0), some (.inl s3.1), some (.inl s3.2.1)]) (S' := []) (M' := s3.2.2) rfl rfl rfl rfl ?_
    refine zg_aload_n (x := 0) dX4_scrub_41 rfl ?_
    refine zg_dup dX4_scrub_42 ?_
    refine zg_getf (v := .inl (s3.2.2 0 5)) dX4_scrub_43 zf_X4_47 rfl rfl rfl ?_
    refine zg_iload_n (x := s3.1) dX4_scrub_46 rfl ?_
    refine zg_iadd dX4_scrub_47 ?_
    refine zg_putf dX4_scrub_48 zp_X4_47 rfl rfl ?_
    refine zg_iload_n (x := s3.1) dX4_scrub_51 rfl ?_
    exact zg_iret dX4_scrub_52 rfl rfl ⟨by decide, by decide⟩ rfl
  · refine zg_st (pc' := 41) (L' := [some (.inr 0), some (.inl 0), none]) (S' := []) (M' := M) rfl rfl rfl rfl ?_
    refine zg_aload_n (x := 0) dX4_scrub_41 rfl ?_
    refine zg_dup dX4_scrub_42 ?_
    refine zg_getf (v := .inl (M 0 5)) dX4_scrub_43 zf_X4_47 rfl rfl rfl ?_
    refine zg_iload_n (x := 0) dX4_scrub_46 rfl ?_
    refine zg_iadd dX4_scrub_47 ?_
    refine zg_putf dX4_scrub_48 zp_X4_47 rfl rfl ?_
    refine zg_iload_n (x := 0) dX4_scrub_51 rfl ?_
    exact zg_iret dX4_scrub_52 rfl rfl ⟨by decide, by decide⟩ rfl
theorem dX4_healed_0 : decode cX4_healed 0 = .ok (.aload_n 0, 1) := by decide +kernel
theorem dX4_healed_1 : decode cX4_healed 1 = .ok (.getfield 47, 3) := by decide +kernel
theorem dX4_healed_4 : decode cX4_healed 4 = .ok (.ireturn, 1) := by decide +kernel
def f_X4_healed (M : Mem) : Int32 :=
  (M 0 5)
set_option maxRecDepth 100000 in
set_option maxHeartbeats 4000000 in
theorem k_X4_healed (q : ZQ) (M : Mem) : Zc (zgX q) mX4_healed 0 0 [.inr 0] M (wI M (f_X4_healed M)) := by
  refine Zc.of (by decide) zi_X4_healed.1 (Nat.le_of_ble_eq_true rfl) rfl ?_
  show Zg _ _ _ _ _ _ (zlet (f_X4_healed M) (wI M)) _ _ _ _
  unfold f_X4_healed
  refine zg_aload_n (x := 0) dX4_healed_0 rfl ?_
  refine zg_getf (v := .inl (M 0 5)) dX4_healed_1 zf_X4_47 rfl rfl rfl ?_
  exact zg_iret dX4_healed_4 rfl rfl ⟨by decide, by decide⟩ rfl
theorem dX4_lost_0 : decode cX4_lost 0 = .ok (.iconst 0, 1) := by decide +kernel
theorem dX4_lost_1 : decode cX4_lost 1 = .ok (.istore_n 1, 1) := by decide +kernel
theorem dX4_lost_2 : decode cX4_lost 2 = .ok (.iconst 0, 1) := by decide +kernel
theorem dX4_lost_3 : decode cX4_lost 3 = .ok (.istore_n 2, 1) := by decide +kernel
theorem dX4_lost_4 : decode cX4_lost 4 = .ok (.iload_n 2, 1) := by decide +kernel
theorem dX4_lost_5 : decode cX4_lost 5 = .ok (.iconst 4, 1) := by decide +kernel
theorem dX4_lost_6 : decode cX4_lost 6 = .ok (.if_icmp .ge 87, 3) := by decide +kernel
theorem dX4_lost_9 : decode cX4_lost 9 = .ok (.aload_n 0, 1) := by decide +kernel
theorem dX4_lost_10 : decode cX4_lost 10 = .ok (.bipush 52, 2) := by decide +kernel
theorem dX4_lost_12 : decode cX4_lost 12 = .ok (.invokevirtual 194, 3) := by decide +kernel
theorem dX4_lost_15 : decode cX4_lost 15 = .ok (.ifCond .eq 18, 3) := by decide +kernel
theorem dX4_lost_18 : decode cX4_lost 18 = .ok (.aload_n 0, 1) := by decide +kernel
theorem dX4_lost_19 : decode cX4_lost 19 = .ok (.iload_n 2, 1) := by decide +kernel
theorem dX4_lost_20 : decode cX4_lost 20 = .ok (.invokestatic 93, 3) := by decide +kernel
theorem dX4_lost_23 : decode cX4_lost 23 = .ok (.invokevirtual 194, 3) := by decide +kernel
theorem dX4_lost_26 : decode cX4_lost 26 = .ok (.ifCond .eq 7, 3) := by decide +kernel
theorem dX4_lost_29 : decode cX4_lost 29 = .ok (.iconst 1, 1) := by decide +kernel
theorem dX4_lost_30 : decode cX4_lost 30 = .ok (.goto 4, 3) := by decide +kernel
theorem dX4_lost_33 : decode cX4_lost 33 = .ok (.iconst 0, 1) := by decide +kernel
theorem dX4_lost_34 : decode cX4_lost 34 = .ok (.istore_n 3, 1) := by decide +kernel
theorem dX4_lost_35 : decode cX4_lost 35 = .ok (.iconst 0, 1) := by decide +kernel
theorem dX4_lost_36 : decode cX4_lost 36 = .ok (.istore 4, 2) := by decide +kernel
theorem dX4_lost_38 : decode cX4_lost 38 = .ok (.iload 4, 2) := by decide +kernel
theorem dX4_lost_40 : decode cX4_lost 40 = .ok (.bipush 12, 2) := by decide +kernel
theorem dX4_lost_42 : decode cX4_lost 42 = .ok (.if_icmp .ge 45, 3) := by decide +kernel
theorem dX4_lost_45 : decode cX4_lost 45 = .ok (.iload_n 2, 1) := by decide +kernel
theorem dX4_lost_46 : decode cX4_lost 46 = .ok (.iload 4, 2) := by decide +kernel
theorem dX4_lost_48 : decode cX4_lost 48 = .ok (.invokestatic 66, 3) := by decide +kernel
theorem dX4_lost_51 : decode cX4_lost 51 = .ok (.istore 5, 2) := by decide +kernel
theorem dX4_lost_53 : decode cX4_lost 53 = .ok (.aload_n 0, 1) := by decide +kernel
theorem dX4_lost_54 : decode cX4_lost 54 = .ok (.getfield 19, 3) := by decide +kernel
theorem dX4_lost_57 : decode cX4_lost 57 = .ok (.iload 5, 2) := by decide +kernel
theorem dX4_lost_59 : decode cX4_lost 59 = .ok (.invokevirtual 203, 3) := by decide +kernel
theorem dX4_lost_62 : decode cX4_lost 62 = .ok (.ifCond .ne 19, 3) := by decide +kernel
theorem dX4_lost_65 : decode cX4_lost 65 = .ok (.iload_n 3, 1) := by decide +kernel
theorem dX4_lost_66 : decode cX4_lost 66 = .ok (.ifCond .eq 12, 3) := by decide +kernel
theorem dX4_lost_69 : decode cX4_lost 69 = .ok (.aload_n 0, 1) := by decide +kernel
theorem dX4_lost_70 : decode cX4_lost 70 = .ok (.iload 5, 2) := by decide +kernel
theorem dX4_lost_72 : decode cX4_lost 72 = .ok (.invokevirtual 194, 3) := by decide +kernel
theorem dX4_lost_75 : decode cX4_lost 75 = .ok (.ifCond .ne 6, 3) := by decide +kernel
theorem dX4_lost_78 : decode cX4_lost 78 = .ok (.iinc 1 1, 3) := by decide +kernel
theorem dX4_lost_81 : decode cX4_lost 81 = .ok (.iinc 4 1, 3) := by decide +kernel
theorem dX4_lost_84 : decode cX4_lost 84 = .ok (.goto (-46), 3) := by decide +kernel
theorem dX4_lost_87 : decode cX4_lost 87 = .ok (.iinc 2 1, 3) := by decide +kernel
theorem dX4_lost_90 : decode cX4_lost 90 = .ok (.goto (-86), 3) := by decide +kernel
theorem dX4_lost_93 : decode cX4_lost 93 = .ok (.iload_n 1, 1) := by decide +kernel
theorem dX4_lost_94 : decode cX4_lost 94 = .ok (.ireturn, 1) := by decide +kernel
def b_X4_lost_38 (x2 : Int32) (x3 : Bool) (M : Mem) (rec : Int32 → Int32 → Int32 × Int32) (v1 : Int32) (v4 : Int32) : Int32 × Int32 :=
  if 12 ≤ v4 then (v1, v4)
  else if (f_X3_isMissing (f_X4_blockPointer x2 v4) M) then rec v1 (v4 + 1)
  else if x3 then if (f_X4_canFetch (f_X4_blockPointer x2 v4) M) then rec v1 (v4 + 1)
    else rec (v1 + 1) (v4 + 1)
  else rec (v1 + 1) (v4 + 1)
def l_X4_lost_38 (x2 : Int32) (x3 : Bool) (M : Mem) : Nat → Int32 → Int32 → Int32 × Int32
  | 0, v1, v4 => (v1, v4)
  | n + 1, v1, v4 => b_X4_lost_38 x2 x3 M (l_X4_lost_38 x2 x3 M n) v1 v4
set_option maxRecDepth 100000 in
set_option maxHeartbeats 4000000 in
theorem kl_X4_lost_38 (q : ZQ) (x2 : Int32) (x3 : Bool) (M : Mem) {K : Int32 × Int32 → ZR} (hx : ∀ e : Int32 × Int32, Zg (zgX q) mX4_lost 0 0 0 0 (K e) 87 [some (.inr 0), some (.inl e.1), some (.inl x2), some (.inl (bI x3)), some (.inl e.2), none] [] M) :
    ∀ (n : Nat) (v1 : Int32) (v4 : Int32), ((12 : Int32).toInt - (v4 : Int32).toInt).toNat < n → Zg (zgX q) mX4_lost 0 0 0 0 (zlet (l_X4_lost_38 x2 x3 M n v1 v4) K) 38 [some (.inr 0), some (.inl v1), some (.inl x2), some (.inl (bI x3)), some (.inl v4), none] [] M := by
  intro n
  induction n with
  | zero => intro v1 v4 hm; exact absurd hm (Nat.not_lt_zero _)
  | succ n ih =>
    intro v1 v4 hm
    show Zg _ _ _ _ _ _ (zlet (b_X4_lost_38 x2 x3 M (l_X4_lost_38 x2 x3 M n) v1 v4) K) _ _ _ _
    unfold b_X4_lost_38
    refine zg_iload (x := v4) dX4_lost_38 rfl ?_
    refine zg_bipush (v := 12) dX4_lost_40 rfl ?_
    refine zg_icmpz (tgt := 87) dX4_lost_42 rfl rfl (fun c42 => ?_) (fun c42 => ?_)
    · refine zg_st (pc' := 87) (L' := [some (.inr 0), some (.inl v1), some (.inl x2), some (.inl (bI x3)), some (.inl v4), none]) (S' := []) (M' := M) rfl rfl rfl rfl ?_
      refine zg_drop (L' := [some (.inr 0), some (.inl v1), some (.inl x2), some (.inl (bI x3)), some (.inl v4), none]) ⟨rfl, rfl, rfl, rfl, rfl, trivial⟩ ?_
      exact hx (v1, v4)
    · refine zg_st (pc' := 45) (L' := [some (.inr 0), some (.inl v1), some (.inl x2), some (.inl (bI x3)), some (.inl v4), none]) (S' := []) (M' := M) rfl rfl rfl rfl ?_
      refine zg_iload_n (x := x2) dX4_lost_45 rfl ?_
      refine zg_iload (x := v4) dX4_lost_46 rfl ?_
      refine zg_cS1 (As := [.inl x2, .inl v4]) (S := []) (v := (f_X4_blockPointer x2 v4)) dX4_lost_48 zk_X4_66 (k_X4_blockPointer q x2 v4 M) rfl ⟨by decide, by decide⟩ ⟨by decide, by decide⟩ rfl (Nat.le_of_ble_eq_true rfl) ?_
      refine zg_st (pc' := 51) (L' := [some (.inr 0), some (.inl v1), some (.inl x2), some (.inl (bI x3)), some (.inl v4), none]) (S' := [.inl (f_X4_blockPointer x2 v4)]) (M' := M) rfl rfl rfl rfl ?_
      refine zg_istore dX4_lost_51 (by decide) ?_
      refine zg_st (pc' := 53) (L' := [some (.inr 0), some (.inl v1), some (.inl x2), some (.inl (bI x3)), some (.inl v4), some (.inl (f_X4_blockPointer x2 v4))]) (S' := []) (M' := M) rfl rfl rfl rfl ?_
      refine zg_aload_n (x := 0) dX4_lost_53 rfl ?_
      refine zg_getf (v := .inr 2) dX4_lost_54 zf_X4_19 rfl rfl rfl ?_
      refine zg_iload (x := (f_X4_blockPointer x2 v4)) dX4_lost_57 rfl ?_
      refine zg_cV1 (As := [.inl (f_X4_blockPointer x2 v4)]) (S := []) (v := bI ((f_X3_isMissing (f_X4_blockPointer x2 v4) M))) dX4_lost_59 zk_X4_203 (k_X3_isMissing q (f_X4_blockPointer x2 v4) M) rfl rfl ⟨by decide, by decide⟩ ⟨by decide, by decide⟩ rfl (Nat.le_of_ble_eq_true rfl) ?_
      refine zg_st (pc' := 62) (L' := [some (.inr 0), some (.inl v1), some (.inl x2), some (.inl (bI x3)), some (.inl v4), some (.inl (f_X4_blockPointer x2 v4))]) (S' := [.inl (bI ((f_X3_isMissing (f_X4_blockPointer x2 v4) M)))]) (M' := M) rfl rfl rfl rfl ?_
      refine zg_ifbn (tgt := 81) dX4_lost_62 rfl (fun c62 => ?_) (fun c62 => ?_)
      · refine zg_st (pc' := 81) (L' := [some (.inr 0), some (.inl v1), some (.inl x2), some (.inl (bI x3)), some (.inl v4), some (.inl (f_X4_blockPointer x2 v4))]) (S' := []) (M' := M) rfl rfl rfl rfl ?_
        refine zg_iinc (v := (v4 + 1)) dX4_lost_81 rfl (by decide) rfl ?_
        refine zg_st (pc' := 84) (L' := [some (.inr 0), some (.inl v1), some (.inl x2), some (.inl (bI x3)), some (.inl (v4 + 1)), some (.inl (f_X4_blockPointer x2 v4))]) (S' := []) (M' := M) rfl rfl rfl rfl ?_
        refine zg_goto (tgt := 38) dX4_lost_84 rfl ?_
        refine zg_st (pc' := 38) (L' := [some (.inr 0), some (.inl v1), some (.inl x2), some (.inl (bI x3)), some (.inl (v4 + 1)), some (.inl (f_X4_blockPointer x2 v4))]) (S' := []) (M' := M) rfl rfl rfl rfl ?_
        refine zg_drop (L' := [some (.inr 0), some (.inl v1), some (.inl x2), some (.inl (bI x3)), some (.inl (v4 + 1)), none]) ⟨rfl, rfl, rfl, rfl, rfl, trivial⟩ ?_
        exact ih v1 (v4 + 1) (z_up c42 hm)
      · refine zg_st (pc' := 65) (L' := [some (.inr 0), some (.inl v1), some (.inl x2), some (.inl (bI x3)), some (.inl v4), some (.inl (f_X4_blockPointer x2 v4))]) (S' := []) (M' := M) rfl rfl rfl rfl ?_
        refine zg_iload_n (x := bI x3) dX4_lost_65 rfl ?_
        refine zg_ifbe (tgt := 78) dX4_lost_66 rfl (fun c66 => ?_) (fun c66 => ?_)
        · refine zg_st (pc' := 69) (L' := [some (.inr 0), some (.inl v1), some (.inl x2), some (.inl (bI x3)), some (.inl v4), some (.inl (f_X4_blockPointer x2 v4))]) (S' := []) (M' := M) rfl rfl rfl rfl ?_
          refine zg_aload_n (x := 0) dX4_lost_69 rfl ?_
          refine zg_iload (x := (f_X4_blockPointer x2 v4)) dX4_lost_70 rfl ?_
          refine zg_cV1 (As := [.inl (f_X4_blockPointer x2 v4)]) (S := []) (v := bI ((f_X4_canFetch (f_X4_blockPointer x2 v4) M))) dX4_lost_72 zk_X4_194 (k_X4_canFetch q (f_X4_blockPointer x2 v4) M) rfl rfl ⟨by decide, by decide⟩ ⟨by decide, by decide⟩ rfl (Nat.le_of_ble_eq_true rfl) ?_
          refine zg_st (pc' := 75) (L' := [some (.inr 0), some (.inl v1), some (.inl x2), some (.inl (bI x3)), some (.inl v4), some (.inl (f_X4_blockPointer x2 v4))]) (S' := [.inl (bI ((f_X4_canFetch (f_X4_blockPointer x2 v4) M)))]) (M' := M) rfl rfl rfl rfl ?_
          refine zg_ifbn (tgt := 81) dX4_lost_75 rfl (fun c75 => ?_) (fun c75 => ?_)
          · refine zg_st (pc' := 81) (L' := [some (.inr 0), some (.inl v1), some (.inl x2), some (.inl (bI x3)), some (.inl v4), some (.inl (f_X4_blockPointer x2 v4))]) (S' := []) (M' := M) rfl rfl rfl rfl ?_
            refine zg_iinc (v := (v4 + 1)) dX4_lost_81 rfl (by decide) rfl ?_
            refine zg_st (pc' := 84) (L' := [some (.inr 0), some (.inl v1), some (.inl x2), some (.inl (bI x3)), some (.inl (v4 + 1)), some (.inl (f_X4_blockPointer x2 v4))]) (S' := []) (M' := M) rfl rfl rfl rfl ?_
            refine zg_goto (tgt := 38) dX4_lost_84 rfl ?_
            refine zg_st (pc' := 38) (L' := [some (.inr 0), some (.inl v1), some (.inl x2), some (.inl (bI x3)), some (.inl (v4 + 1)), some (.inl (f_X4_blockPointer x2 v4))]) (S' := []) (M' := M) rfl rfl rfl rfl ?_
            refine zg_drop (L' := [some (.inr 0), some (.inl v1), some (.inl x2), some (.inl (bI x3)), some (.inl (v4 + 1)), none]) ⟨rfl, rfl, rfl, rfl, rfl, trivial⟩ ?_
            exact ih v1 (v4 + 1) (z_up c42 hm)
          · refine zg_st (pc' := 78) (L' := [some (.inr 0), some (.inl v1), some (.inl x2), some (.inl (bI x3)), some (.inl v4), some (.inl (f_X4_blockPointer x2 v4))]) (S' := []) (M' := M) rfl rfl rfl rfl ?_
            refine zg_iinc (v := (v1 + 1)) dX4_lost_78 rfl (by decide) rfl ?_
            refine zg_st (pc' := 81) (L' := [some (.inr 0), some (.inl (v1 + 1)), some (.inl x2), some (.inl (bI x3)), some (.inl v4), some (.inl (f_X4_blockPointer x2 v4))]) (S' := []) (M' := M) rfl rfl rfl rfl ?_
            refine zg_iinc (v := (v4 + 1)) dX4_lost_81 rfl (by decide) rfl ?_
            refine zg_st (pc' := 84) (L' := [some (.inr 0), some (.inl (v1 + 1)), some (.inl x2), some (.inl (bI x3)), some (.inl (v4 + 1)), some (.inl (f_X4_blockPointer x2 v4))]) (S' := []) (M' := M) rfl rfl rfl rfl ?_
            refine zg_goto (tgt := 38) dX4_lost_84 rfl ?_
            refine zg_st (pc' := 38) (L' := [some (.inr 0), some (.inl (v1 + 1)), some (.inl x2), some (.inl (bI x3)), some (.inl (v4 + 1)), some (.inl (f_X4_blockPointer x2 v4))]) (S' := []) (M' := M) rfl rfl rfl rfl ?_
            refine zg_drop (L' := [some (.inr 0), some (.inl (v1 + 1)), some (.inl x2), some (.inl (bI x3)), some (.inl (v4 + 1)), none]) ⟨rfl, rfl, rfl, rfl, rfl, trivial⟩ ?_
            exact ih (v1 + 1) (v4 + 1) (z_up c42 hm)
        · refine zg_st (pc' := 78) (L' := [some (.inr 0), some (.inl v1), some (.inl x2), some (.inl (bI x3)), some (.inl v4), some (.inl (f_X4_blockPointer x2 v4))]) (S' := []) (M' := M) rfl rfl rfl rfl ?_
          refine zg_iinc (v := (v1 + 1)) dX4_lost_78 rfl (by decide) rfl ?_
          refine zg_st (pc' := 81) (L' := [some (.inr 0), some (.inl (v1 + 1)), some (.inl x2), some (.inl (bI x3)), some (.inl v4), some (.inl (f_X4_blockPointer x2 v4))]) (S' := []) (M' := M) rfl rfl rfl rfl ?_
          refine zg_iinc (v := (v4 + 1)) dX4_lost_81 rfl (by decide) rfl ?_
          refine zg_st (pc' := 84) (L' := [some (.inr 0), some (.inl (v1 + 1)), some (.inl x2), some (.inl (bI x3)), some (.inl (v4 + 1)), some (.inl (f_X4_blockPointer x2 v4))]) (S' := []) (M' := M) rfl rfl rfl rfl ?_
          refine zg_goto (tgt := 38) dX4_lost_84 rfl ?_
          refine zg_st (pc' := 38) (L' := [some (.inr 0), some (.inl (v1 + 1)), some (.inl x2), some (.inl (bI x3)), some (.inl (v4 + 1)), some (.inl (f_X4_blockPointer x2 v4))]) (S' := []) (M' := M) rfl rfl rfl rfl ?_
          refine zg_drop (L' := [some (.inr 0), some (.inl (v1 + 1)), some (.inl x2), some (.inl (bI x3)), some (.inl (v4 + 1)), none]) ⟨rfl, rfl, rfl, rfl, rfl, trivial⟩ ?_
          exact ih (v1 + 1) (v4 + 1) (z_up c42 hm)
def b_X4_lost_4 (M : Mem) (rec : Int32 → Int32 → Int32 × Int32) (v1 : Int32) (v2 : Int32) : Int32 × Int32 :=
  if 4 ≤ v2 then (v1, v2)
  else zlet (if (f_X4_canFetch 52 M) then if (f_X4_canFetch (f_X4_filePointer v2) M) then true
      else false
    else false) (fun (j1 : Bool) =>
  zlet (l_X4_lost_38 v2 j1 M 13 v1 0) (fun s3 =>
    rec s3.1 (v2 + 1)))
def l_X4_lost_4 (M : Mem) : Nat → Int32 → Int32 → Int32 × Int32
  | 0, v1, v2 => (v1, v2)
  | n + 1, v1, v2 => b_X4_lost_4 M (l_X4_lost_4 M n) v1 v2
set_option maxRecDepth 100000 in
set_option maxHeartbeats 4000000 in
theorem kl_X4_lost_4 (q : ZQ) (M : Mem) {K : Int32 × Int32 → ZR} (hx : ∀ e : Int32 × Int32, Zg (zgX q) mX4_lost 0 0 0 0 (K e) 93 [some (.inr 0), some (.inl e.1), some (.inl e.2), none, none, none] [] M) :
    ∀ (n : Nat) (v1 : Int32) (v2 : Int32), ((4 : Int32).toInt - (v2 : Int32).toInt).toNat < n → Zg (zgX q) mX4_lost 0 0 0 0 (zlet (l_X4_lost_4 M n v1 v2) K) 4 [some (.inr 0), some (.inl v1), some (.inl v2), none, none, none] [] M := by
  intro n
  induction n with
  | zero => intro v1 v2 hm; exact absurd hm (Nat.not_lt_zero _)
  | succ n ih =>
    intro v1 v2 hm
    show Zg _ _ _ _ _ _ (zlet (b_X4_lost_4 M (l_X4_lost_4 M n) v1 v2) K) _ _ _ _
    unfold b_X4_lost_4
    refine zg_iload_n (x := v2) dX4_lost_4 rfl ?_
    refine zg_iconst (v := 4) dX4_lost_5 rfl ?_
    refine zg_icmpz (tgt := 93) dX4_lost_6 rfl rfl (fun c6 => ?_) (fun c6 => ?_)
    · refine zg_st (pc' := 93) (L' := [some (.inr 0), some (.inl v1), some (.inl v2), none, none, none]) (S' := []) (M' := M) rfl rfl rfl rfl ?_
      refine zg_drop (L' := [some (.inr 0), some (.inl v1), some (.inl v2), none, none, none]) ⟨rfl, rfl, rfl, trivial⟩ ?_
      exact hx (v1, v2)
    · refine zg_st (pc' := 9) (L' := [some (.inr 0), some (.inl v1), some (.inl v2), none, none, none]) (S' := []) (M' := M) rfl rfl rfl rfl ?_
      refine zg_aload_n (x := 0) dX4_lost_9 rfl ?_
      refine zg_bipush (v := 52) dX4_lost_10 rfl ?_
      refine zg_cV1 (As := [.inl 52]) (S := []) (v := bI ((f_X4_canFetch 52 M))) dX4_lost_12 zk_X4_194 (k_X4_canFetch q 52 M) rfl rfl ⟨by decide, by decide⟩ ⟨by decide, by decide⟩ rfl (Nat.le_of_ble_eq_true rfl) ?_
      refine zg_st (pc' := 15) (L' := [some (.inr 0), some (.inl v1), some (.inl v2), none, none, none]) (S' := [.inl (bI ((f_X4_canFetch 52 M)))]) (M' := M) rfl rfl rfl rfl ?_
      refine zg_join (pc' := 34) (Lf := fun (j1 : Bool) => [some (.inr 0), some (.inl v1), some (.inl v2), none, none, none]) (Sf := fun j1 => [.inl (bI j1)]) (Mf := fun j1 => M) (fun (j1 : Bool) => ?_) (fun J2 => ?_)
      · try dsimp only
        refine zg_istore_n dX4_lost_34 (by decide) ?_
        refine zg_st (pc' := 35) (L' := [some (.inr 0), some (.inl v1), some (.inl v2), some (.inl (bI j1)), none, none]) (S' := []) (M' := M) rfl rfl rfl rfl ?_
        refine zg_iconst (v := 0) dX4_lost_35 rfl ?_
        refine zg_istore dX4_lost_36 (by decide) ?_
        refine zg_st (pc' := 38) (L' := [some (.inr 0), some (.inl v1), some (.inl v2), some (.inl (bI j1)), some (.inl 0), none]) (S' := []) (M' := M) rfl rfl rfl rfl ?_
        refine zg_asc ?_
        refine zg_drop (L' := [some (.inr 0), some (.inl v1), some (.inl v2), some (.inl (bI j1)), some (.inl 0), none]) ⟨rfl, rfl, rfl, rfl, rfl, trivial⟩ ?_
        refine kl_X4_lost_38 q v2 j1 M (fun s3 => ?_) 13 v1 0 (by decide)
        try dsimp only [Sum.elim_inr]
        refine zg_st (pc' := 87) (L' := [some (.inr 0), some (.inl s3.1), some (.inl v2), some (.inl (bI j1)), some (.inl s3.2), none]) (S' := []) (M' := M) rfl rfl rfl rfl ?_
        refine zg_iinc (v := (v2 + 1)) dX4_lost_87 rfl (by decide) rfl ?_
        refine zg_st (pc' := 90) (L' := [some (.inr 0), some (.inl s3.1), some (.inl (v2 + 1)), some (.inl (bI j1)), some (.inl s3.2), none]) (S' := []) (M' := M) rfl rfl rfl rfl ?_
        refine zg_goto (tgt := 4) dX4_lost_90 rfl ?_
        refine zg_st (pc' := 4) (L' := [some (.inr 0), some (.inl s3.1), some (.inl (v2 + 1)), some (.inl (bI j1)), some (.inl s3.2), none]) (S' := []) (M' := M) rfl rfl rfl rfl ?_
        refine zg_drop (L' := [some (.inr 0), some (.inl s3.1), some (.inl (v2 + 1)), none, none, none]) ⟨rfl, rfl, rfl, trivial⟩ ?_
        exact ih s3.1 (v2 + 1) (z_up c6 hm)
      · refine zg_ifbe (tgt := 33) dX4_lost_15 rfl (fun c15 => ?_) (fun c15 => ?_)
        · refine zg_st (pc' := 18) (L' := [some (.inr 0), some (.inl v1), some (.inl v2), none, none, none]) (S' := []) (M' := M) rfl rfl rfl rfl ?_
          refine zg_aload_n (x := 0) dX4_lost_18 rfl ?_
          refine zg_iload_n (x := v2) dX4_lost_19 rfl ?_
          refine zg_cS1 (As := [.inl v2]) (S := [.inr 0]) (v := (f_X4_filePointer v2)) dX4_lost_20 zk_X4_93 (k_X4_filePointer q v2 M) rfl ⟨by decide, by decide⟩ ⟨by decide, by decide⟩ rfl (Nat.le_of_ble_eq_true rfl) ?_
          refine zg_st (pc' := 23) (L' := [some (.inr 0), some (.inl v1), some (.inl v2), none, none, none]) (S' := [.inl (f_X4_filePointer v2), .inr 0]) (M' := M) rfl rfl rfl rfl ?_
          refine zg_cV1 (As := [.inl (f_X4_filePointer v2)]) (S := []) (v := bI ((f_X4_canFetch (f_X4_filePointer v2) M))) dX4_lost_23 zk_X4_194 (k_X4_canFetch q (f_X4_filePointer v2) M) rfl rfl ⟨by decide, by decide⟩ ⟨by decide, by decide⟩ rfl (Nat.le_of_ble_eq_true rfl) ?_
          refine zg_st (pc' := 26) (L' := [some (.inr 0), some (.inl v1), some (.inl v2), none, none, none]) (S' := [.inl (bI ((f_X4_canFetch (f_X4_filePointer v2) M)))]) (M' := M) rfl rfl rfl rfl ?_
          refine zg_ifbe (tgt := 33) dX4_lost_26 rfl (fun c26 => ?_) (fun c26 => ?_)
          · refine zg_st (pc' := 29) (L' := [some (.inr 0), some (.inl v1), some (.inl v2), none, none, none]) (S' := []) (M' := M) rfl rfl rfl rfl ?_
            refine zg_iconst (v := 1) dX4_lost_29 rfl ?_
            refine zg_goto (tgt := 34) dX4_lost_30 rfl ?_
            refine zg_st (pc' := 34) (L' := [some (.inr 0), some (.inl v1), some (.inl v2), none, none, none]) (S' := [.inl 1]) (M' := M) rfl rfl rfl rfl ?_
            refine zg_drop (L' := [some (.inr 0), some (.inl v1), some (.inl v2), none, none, none]) ⟨rfl, rfl, rfl, trivial⟩ ?_
            exact J2 true
          · refine zg_st (pc' := 33) (L' := [some (.inr 0), some (.inl v1), some (.inl v2), none, none, none]) (S' := []) (M' := M) rfl rfl rfl rfl ?_
            refine zg_iconst (v := 0) dX4_lost_33 rfl ?_
            refine zg_drop (L' := [some (.inr 0), some (.inl v1), some (.inl v2), none, none, none]) ⟨rfl, rfl, rfl, trivial⟩ ?_
            exact J2 false
        · refine zg_st (pc' := 33) (L' := [some (.inr 0), some (.inl v1), some (.inl v2), none, none, none]) (S' := []) (M' := M) rfl rfl rfl rfl ?_
          refine zg_iconst (v := 0) dX4_lost_33 rfl ?_
          refine zg_drop (L' := [some (.inr 0), some (.inl v1), some (.inl v2), none, none, none]) ⟨rfl, rfl, rfl, trivial⟩ ?_
          exact J2 false
def f_X4_lost (M : Mem) : Int32 :=
  zlet (l_X4_lost_4 M 5 0 0) (fun s4 =>
  s4.1)
set_option maxRecDepth 100000 in
set_option maxHeartbeats 4000000 in
theorem k_X4_lost (q : ZQ) (M : Mem) : Zc (zgX q) mX4_lost 0 0 [.inr 0] M (wI M (f_X4_lost M)) := by
  refine Zc.of (by decide) zi_X4_lost.1 (Nat.le_of_ble_eq_true rfl) rfl ?_
  show Zg _ _ _ _ _ _ (zlet (f_X4_lost M) (wI M)) _ _ _ _
  unfold f_X4_lost
  refine zg_iconst (v := 0) dX4_lost_0 rfl ?_
  refine zg_istore_n dX4_lost_1 (by decide) ?_
  refine zg_st (pc' := 2) (L' := [some (.inr 0), some (.inl 0), none, none, none, none]) (S' := []) (M' := M) rfl rfl rfl rfl ?_
  refine zg_iconst (v := 0) dX4_lost_2 rfl ?_
  refine zg_istore_n dX4_lost_3 (by decide) ?_
  refine zg_st (pc' := 4) (L' := [some (.inr 0), some (.inl 0), some (.inl 0), none, none, none]) (S' := []) (M' := M) rfl rfl rfl rfl ?_
  refine zg_asc ?_
  refine zg_drop (L' := [some (.inr 0), some (.inl 0), some (.inl 0), none, none, none]) ⟨rfl, rfl, rfl, trivial⟩ ?_
  refine kl_X4_lost_4 q M (fun s4 => ?_) 5 0 0 (by decide)
  try dsimp only [Sum.elim_inr]
  refine zg_st (pc' := 93) (L' := [some (.inr 0), some (.inl s4.1), some (.inl s4.2), none, none, none]) (S' := []) (M' := M) rfl rfl rfl rfl ?_
  refine zg_iload_n (x := s4.1) dX4_lost_93 rfl ?_
  exact zg_iret dX4_lost_94 rfl rfl ⟨by decide, by decide⟩ rfl
theorem dX4_places_0 : decode cX4_places 0 = .ok (.iload_n 1, 1) := by decide +kernel
theorem dX4_places_1 : decode cX4_places 1 = .ok (.iload_n 2, 1) := by decide +kernel
theorem dX4_places_2 : decode cX4_places 2 = .ok (.invokestatic 51, 3) := by decide +kernel
theorem dX4_places_5 : decode cX4_places 5 = .ok (.ifCond .ne 13, 3) := by decide +kernel
theorem dX4_places_8 : decode cX4_places 8 = .ok (.new 55, 3) := by decide +kernel
theorem dX4_places_11 : decode cX4_places 11 = .ok (.dup, 1) := by decide +kernel
theorem dX4_places_12 : decode cX4_places 12 = .ok (.ldc 84, 2) := by decide +kernel
theorem dX4_places_14 : decode cX4_places 14 = .ok (.invokespecial 59, 3) := by decide +kernel
theorem dX4_places_17 : decode cX4_places 17 = .ok (.athrow, 1) := by decide +kernel
theorem dX4_places_18 : decode cX4_places 18 = .ok (.aload_n 0, 1) := by decide +kernel
theorem dX4_places_19 : decode cX4_places 19 = .ok (.getfield 19, 3) := by decide +kernel
theorem dX4_places_22 : decode cX4_places 22 = .ok (.iload_n 1, 1) := by decide +kernel
theorem dX4_places_23 : decode cX4_places 23 = .ok (.iload_n 2, 1) := by decide +kernel
theorem dX4_places_24 : decode cX4_places 24 = .ok (.invokestatic 66, 3) := by decide +kernel
theorem dX4_places_27 : decode cX4_places 27 = .ok (.invokevirtual 206, 3) := by decide +kernel
theorem dX4_places_30 : decode cX4_places 30 = .ok (.ireturn, 1) := by decide +kernel
def f_X4_places (p1 : Int32) (p2 : Int32) (M : Mem) : (Int32 ⊕ String) :=
  if (f_X4_isBlockOfFile p1 p2) then .inl (f_X3_countPlaces (f_X4_blockPointer p1 p2) M)
  else .inr "java/lang/IllegalArgumentException"
set_option maxRecDepth 100000 in
set_option maxHeartbeats 4000000 in
theorem k_X4_places (q : ZQ) (hq : q.1.stackTraces = false) (p1 : Int32) (p2 : Int32) (M : Mem) : Zc (zgX q) mX4_places 1 6 [.inr 0, .inl p1, .inl p2] M (xI M (f_X4_places p1 p2 M)) := by
  refine Zc.of (by decide) zi_X4_places.1 (Nat.le_of_ble_eq_true rfl) rfl ?_
  show Zg _ _ _ _ _ _ (zlet (f_X4_places p1 p2 M) (xI M)) _ _ _ _
  unfold f_X4_places
  refine zg_iload_n (x := p1) dX4_places_0 rfl ?_
  refine zg_iload_n (x := p2) dX4_places_1 rfl ?_
  refine zg_cS1 (As := [.inl p1, .inl p2]) (S := []) (v := bI ((f_X4_isBlockOfFile p1 p2))) dX4_places_2 zk_X4_51 (k_X4_isBlockOfFile q p1 p2 M) rfl ⟨by decide, by decide⟩ ⟨by decide, by decide⟩ rfl (Nat.le_of_ble_eq_true rfl) ?_
  refine zg_st (pc' := 5) (L' := [some (.inr 0), some (.inl p1), some (.inl p2)]) (S' := [.inl (bI ((f_X4_isBlockOfFile p1 p2)))]) (M' := M) rfl rfl rfl rfl ?_
  refine zg_ifbn (tgt := 18) dX4_places_5 rfl (fun c5 => ?_) (fun c5 => ?_)
  · refine zg_st (pc' := 18) (L' := [some (.inr 0), some (.inl p1), some (.inl p2)]) (S' := []) (M' := M) rfl rfl rfl rfl ?_
    refine zg_aload_n (x := 0) dX4_places_18 rfl ?_
    refine zg_getf (v := .inr 2) dX4_places_19 zf_X4_19 rfl rfl rfl ?_
    refine zg_iload_n (x := p1) dX4_places_22 rfl ?_
    refine zg_iload_n (x := p2) dX4_places_23 rfl ?_
    refine zg_cS1 (As := [.inl p1, .inl p2]) (S := [.inr 2]) (v := (f_X4_blockPointer p1 p2)) dX4_places_24 zk_X4_66 (k_X4_blockPointer q p1 p2 M) rfl ⟨by decide, by decide⟩ ⟨by decide, by decide⟩ rfl (Nat.le_of_ble_eq_true rfl) ?_
    refine zg_st (pc' := 27) (L' := [some (.inr 0), some (.inl p1), some (.inl p2)]) (S' := [.inl (f_X4_blockPointer p1 p2), .inr 2]) (M' := M) rfl rfl rfl rfl ?_
    refine zg_cV1 (As := [.inl (f_X4_blockPointer p1 p2)]) (S := []) (v := (f_X3_countPlaces (f_X4_blockPointer p1 p2) M)) dX4_places_27 zk_X4_206 (k_X3_countPlaces q (f_X4_blockPointer p1 p2) M) rfl rfl ⟨by decide, by decide⟩ ⟨by decide, by decide⟩ rfl (Nat.le_of_ble_eq_true rfl) ?_
    refine zg_st (pc' := 30) (L' := [some (.inr 0), some (.inl p1), some (.inl p2)]) (S' := [.inl (f_X3_countPlaces (f_X4_blockPointer p1 p2) M)]) (M' := M) rfl rfl rfl rfl ?_
    exact zg_iret dX4_places_30 rfl rfl ⟨by decide, by decide⟩ rfl
  · refine zg_st (pc' := 8) (L' := [some (.inr 0), some (.inl p1), some (.inl p2)]) (S' := []) (M' := M) rfl rfl rfl rfl ?_
    exact zg_throw (text := "file or block is out of range") hq zt_55 rfl (by decide) dX4_places_8 dX4_places_11 dX4_places_12 dX4_places_14 dX4_places_17 (by decide) (Nat.le_of_ble_eq_true rfl) (by decide) (by decide) rfl
theorem dX4_told_0 : decode cX4_told 0 = .ok (.iload_n 0, 1) := by decide +kernel
theorem dX4_told_1 : decode cX4_told 1 = .ok (.invokestatic 223, 3) := by decide +kernel
theorem dX4_told_4 : decode cX4_told 4 = .ok (.ifCond .ne 13, 3) := by decide +kernel
theorem dX4_told_7 : decode cX4_told 7 = .ok (.new 110, 3) := by decide +kernel
theorem dX4_told_10 : decode cX4_told 10 = .ok (.dup, 1) := by decide +kernel
theorem dX4_told_11 : decode cX4_told 11 = .ok (.ldc 226, 2) := by decide +kernel
theorem dX4_told_13 : decode cX4_told 13 = .ok (.invokespecial 114, 3) := by decide +kernel
theorem dX4_told_16 : decode cX4_told 16 = .ok (.athrow, 1) := by decide +kernel
theorem dX4_told_17 : decode cX4_told 17 = .ok (.bipush 100, 2) := by decide +kernel
theorem dX4_told_19 : decode cX4_told 19 = .ok (.iload_n 0, 1) := by decide +kernel
theorem dX4_told_20 : decode cX4_told 20 = .ok (.invokestatic 228, 3) := by decide +kernel
theorem dX4_told_23 : decode cX4_told 23 = .ok (.imul, 1) := by decide +kernel
theorem dX4_told_24 : decode cX4_told 24 = .ok (.iload_n 0, 1) := by decide +kernel
theorem dX4_told_25 : decode cX4_told 25 = .ok (.bipush 40, 2) := by decide +kernel
theorem dX4_told_27 : decode cX4_told 27 = .ok (.irem, 1) := by decide +kernel
theorem dX4_told_28 : decode cX4_told 28 = .ok (.iadd, 1) := by decide +kernel
theorem dX4_told_29 : decode cX4_told 29 = .ok (.ireturn, 1) := by decide +kernel
def f_X4_told (p0 : Int32) : (Int32 ⊕ String) :=
  if (f_X4_isPlaceNumber p0) then .inl ((100 * (f_X4_mirrorOf p0)) + (p0 - p0 / 40 * 40))
  else .inr "java/util/NoSuchElementException"
set_option maxRecDepth 100000 in
set_option maxHeartbeats 4000000 in
theorem k_X4_told (q : ZQ) (hq : q.1.stackTraces = false) (p0 : Int32) (M : Mem) : Zc (zgX q) mX4_told 1 6 [.inl p0] M (xI M (f_X4_told p0)) := by
  refine Zc.of (by decide) zi_X4_told.1 (Nat.le_of_ble_eq_true rfl) rfl ?_
  show Zg _ _ _ _ _ _ (zlet (f_X4_told p0) (xI M)) _ _ _ _
  unfold f_X4_told
  refine zg_iload_n (x := p0) dX4_told_0 rfl ?_
  refine zg_cS1 (As := [.inl p0]) (S := []) (v := bI ((f_X4_isPlaceNumber p0))) dX4_told_1 zk_X4_223 (k_X4_isPlaceNumber q p0 M) rfl ⟨by decide, by decide⟩ ⟨by decide, by decide⟩ rfl (Nat.le_of_ble_eq_true rfl) ?_
  refine zg_st (pc' := 4) (L' := [some (.inl p0)]) (S' := [.inl (bI ((f_X4_isPlaceNumber p0)))]) (M' := M) rfl rfl rfl rfl ?_
  refine zg_ifbn (tgt := 17) dX4_told_4 rfl (fun c4 => ?_) (fun c4 => ?_)
  · refine zg_st (pc' := 17) (L' := [some (.inl p0)]) (S' := []) (M' := M) rfl rfl rfl rfl ?_
    refine zg_bipush (v := 100) dX4_told_17 rfl ?_
    refine zg_iload_n (x := p0) dX4_told_19 rfl ?_
    refine zg_cS1 (As := [.inl p0]) (S := [.inl 100]) (v := (f_X4_mirrorOf p0)) dX4_told_20 zk_X4_228 (k_X4_mirrorOf q p0 M) rfl ⟨by decide, by decide⟩ ⟨by decide, by decide⟩ rfl (Nat.le_of_ble_eq_true rfl) ?_
    refine zg_st (pc' := 23) (L' := [some (.inl p0)]) (S' := [.inl (f_X4_mirrorOf p0), .inl 100]) (M' := M) rfl rfl rfl rfl ?_
    refine zg_imul dX4_told_23 ?_
    refine zg_iload_n (x := p0) dX4_told_24 rfl ?_
    refine zg_bipush (v := 40) dX4_told_25 rfl ?_
    refine zg_irem dX4_told_27 (by decide) ?_
    refine zg_iadd dX4_told_28 ?_
    exact zg_iret dX4_told_29 rfl rfl ⟨by decide, by decide⟩ rfl
  · refine zg_st (pc' := 7) (L' := [some (.inl p0)]) (S' := []) (M' := M) rfl rfl rfl rfl ?_
    exact zg_throwN (text := "there is no such place") hq rfl (by decide) dX4_told_7 dX4_told_10 dX4_told_11 dX4_told_13 dX4_told_16 (by decide) (Nat.le_of_ble_eq_true rfl) (by decide) (by decide) rfl
theorem dX4_place_0 : decode cX4_place 0 = .ok (.iload_n 1, 1) := by decide +kernel
theorem dX4_place_1 : decode cX4_place 1 = .ok (.iload_n 2, 1) := by decide +kernel
theorem dX4_place_2 : decode cX4_place 2 = .ok (.invokestatic 51, 3) := by decide +kernel
theorem dX4_place_5 : decode cX4_place 5 = .ok (.ifCond .ne 13, 3) := by decide +kernel
theorem dX4_place_8 : decode cX4_place 8 = .ok (.new 55, 3) := by decide +kernel
theorem dX4_place_11 : decode cX4_place 11 = .ok (.dup, 1) := by decide +kernel
theorem dX4_place_12 : decode cX4_place 12 = .ok (.ldc 84, 2) := by decide +kernel
theorem dX4_place_14 : decode cX4_place 14 = .ok (.invokespecial 59, 3) := by decide +kernel
theorem dX4_place_17 : decode cX4_place 17 = .ok (.athrow, 1) := by decide +kernel
theorem dX4_place_18 : decode cX4_place 18 = .ok (.aload_n 0, 1) := by decide +kernel
theorem dX4_place_19 : decode cX4_place 19 = .ok (.getfield 19, 3) := by decide +kernel
theorem dX4_place_22 : decode cX4_place 22 = .ok (.iload_n 1, 1) := by decide +kernel
theorem dX4_place_23 : decode cX4_place 23 = .ok (.iload_n 2, 1) := by decide +kernel
theorem dX4_place_24 : decode cX4_place 24 = .ok (.invokestatic 66, 3) := by decide +kernel
theorem dX4_place_27 : decode cX4_place 27 = .ok (.iload_n 3, 1) := by decide +kernel
theorem dX4_place_28 : decode cX4_place 28 = .ok (.invokevirtual 209, 3) := by decide +kernel
theorem dX4_place_31 : decode cX4_place 31 = .ok (.invokestatic 212, 3) := by decide +kernel
theorem dX4_place_34 : decode cX4_place 34 = .ok (.ireturn, 1) := by decide +kernel
def f_X4_place (p1 : Int32) (p2 : Int32) (p3 : Int32) (M : Mem) : (Int32 ⊕ String) :=
  if (f_X4_isBlockOfFile p1 p2) then f_X4_told (f_X3_placeOf (f_X4_blockPointer p1 p2) p3 M)
  else .inr "java/lang/IllegalArgumentException"
set_option maxRecDepth 100000 in
set_option maxHeartbeats 4000000 in
theorem k_X4_place (q : ZQ) (hq : q.1.stackTraces = false) (p1 : Int32) (p2 : Int32) (p3 : Int32) (M : Mem) : Zc (zgX q) mX4_place 1 6 [.inr 0, .inl p1, .inl p2, .inl p3] M (xI M (f_X4_place p1 p2 p3 M)) := by
  refine Zc.of (by decide) zi_X4_place.1 (Nat.le_of_ble_eq_true rfl) rfl ?_
  show Zg _ _ _ _ _ _ (zlet (f_X4_place p1 p2 p3 M) (xI M)) _ _ _ _
  unfold f_X4_place
  refine zg_iload_n (x := p1) dX4_place_0 rfl ?_
  refine zg_iload_n (x := p2) dX4_place_1 rfl ?_
  refine zg_cS1 (As := [.inl p1, .inl p2]) (S := []) (v := bI ((f_X4_isBlockOfFile p1 p2))) dX4_place_2 zk_X4_51 (k_X4_isBlockOfFile q p1 p2 M) rfl ⟨by decide, by decide⟩ ⟨by decide, by decide⟩ rfl (Nat.le_of_ble_eq_true rfl) ?_
  refine zg_st (pc' := 5) (L' := [some (.inr 0), some (.inl p1), some (.inl p2), some (.inl p3)]) (S' := [.inl (bI ((f_X4_isBlockOfFile p1 p2)))]) (M' := M) rfl rfl rfl rfl ?_
  refine zg_ifbn (tgt := 18) dX4_place_5 rfl (fun c5 => ?_) (fun c5 => ?_)
  · refine zg_st (pc' := 18) (L' := [some (.inr 0), some (.inl p1), some (.inl p2), some (.inl p3)]) (S' := []) (M' := M) rfl rfl rfl rfl ?_
    refine zg_aload_n (x := 0) dX4_place_18 rfl ?_
    refine zg_getf (v := .inr 2) dX4_place_19 zf_X4_19 rfl rfl rfl ?_
    refine zg_iload_n (x := p1) dX4_place_22 rfl ?_
    refine zg_iload_n (x := p2) dX4_place_23 rfl ?_
    refine zg_cS1 (As := [.inl p1, .inl p2]) (S := [.inr 2]) (v := (f_X4_blockPointer p1 p2)) dX4_place_24 zk_X4_66 (k_X4_blockPointer q p1 p2 M) rfl ⟨by decide, by decide⟩ ⟨by decide, by decide⟩ rfl (Nat.le_of_ble_eq_true rfl) ?_
    refine zg_st (pc' := 27) (L' := [some (.inr 0), some (.inl p1), some (.inl p2), some (.inl p3)]) (S' := [.inl (f_X4_blockPointer p1 p2), .inr 2]) (M' := M) rfl rfl rfl rfl ?_
    refine zg_iload_n (x := p3) dX4_place_27 rfl ?_
    refine zg_cV1 (As := [.inl (f_X4_blockPointer p1 p2), .inl p3]) (S := []) (v := (f_X3_placeOf (f_X4_blockPointer p1 p2) p3 M)) dX4_place_28 zk_X4_209 (k_X3_placeOf q (f_X4_blockPointer p1 p2) p3 M) rfl rfl ⟨by decide, by decide⟩ ⟨by decide, by decide⟩ rfl (Nat.le_of_ble_eq_true rfl) ?_
    refine zg_st (pc' := 31) (L' := [some (.inr 0), some (.inl p1), some (.inl p2), some (.inl p3)]) (S' := [.inl (f_X3_placeOf (f_X4_blockPointer p1 p2) p3 M)]) (M' := M) rfl rfl rfl rfl ?_
    exact zg_cSX (As := [.inl (f_X3_placeOf (f_X4_blockPointer p1 p2) p3 M)]) dX4_place_31 dX4_place_34 rfl zk_X4_212 (k_X4_told q hq (f_X3_placeOf (f_X4_blockPointer p1 p2) p3 M) M) rfl ⟨by decide, by decide⟩ rfl
  · refine zg_st (pc' := 8) (L' := [some (.inr 0), some (.inl p1), some (.inl p2), some (.inl p3)]) (S' := []) (M' := M) rfl rfl rfl rfl ?_
    exact zg_throw (text := "file or block is out of range") hq zt_55 rfl (by decide) dX4_place_8 dX4_place_11 dX4_place_12 dX4_place_14 dX4_place_17 (by decide) (Nat.le_of_ble_eq_true rfl) (by decide) (by decide) rfl
theorem dX4_nodePlace_0 : decode cX4_nodePlace 0 = .ok (.iload_n 1, 1) := by decide +kernel
theorem dX4_nodePlace_1 : decode cX4_nodePlace 1 = .ok (.invokestatic 79, 3) := by decide +kernel
theorem dX4_nodePlace_4 : decode cX4_nodePlace 4 = .ok (.ifCond .ne 13, 3) := by decide +kernel
theorem dX4_nodePlace_7 : decode cX4_nodePlace 7 = .ok (.new 55, 3) := by decide +kernel
theorem dX4_nodePlace_10 : decode cX4_nodePlace 10 = .ok (.dup, 1) := by decide +kernel
theorem dX4_nodePlace_11 : decode cX4_nodePlace 11 = .ok (.ldc 215, 2) := by decide +kernel
theorem dX4_nodePlace_13 : decode cX4_nodePlace 13 = .ok (.invokespecial 59, 3) := by decide +kernel
theorem dX4_nodePlace_16 : decode cX4_nodePlace 16 = .ok (.athrow, 1) := by decide +kernel
theorem dX4_nodePlace_17 : decode cX4_nodePlace 17 = .ok (.aload_n 0, 1) := by decide +kernel
theorem dX4_nodePlace_18 : decode cX4_nodePlace 18 = .ok (.getfield 19, 3) := by decide +kernel
theorem dX4_nodePlace_21 : decode cX4_nodePlace 21 = .ok (.iload_n 1, 1) := by decide +kernel
theorem dX4_nodePlace_22 : decode cX4_nodePlace 22 = .ok (.invokestatic 93, 3) := by decide +kernel
theorem dX4_nodePlace_25 : decode cX4_nodePlace 25 = .ok (.iload_n 2, 1) := by decide +kernel
theorem dX4_nodePlace_26 : decode cX4_nodePlace 26 = .ok (.invokevirtual 209, 3) := by decide +kernel
theorem dX4_nodePlace_29 : decode cX4_nodePlace 29 = .ok (.invokestatic 212, 3) := by decide +kernel
theorem dX4_nodePlace_32 : decode cX4_nodePlace 32 = .ok (.ireturn, 1) := by decide +kernel
def f_X4_nodePlace (p1 : Int32) (p2 : Int32) (M : Mem) : (Int32 ⊕ String) :=
  if (f_X4_isFile p1) then f_X4_told (f_X3_placeOf (f_X4_filePointer p1) p2 M)
  else .inr "java/lang/IllegalArgumentException"
set_option maxRecDepth 100000 in
set_option maxHeartbeats 4000000 in
theorem k_X4_nodePlace (q : ZQ) (hq : q.1.stackTraces = false) (p1 : Int32) (p2 : Int32) (M : Mem) : Zc (zgX q) mX4_nodePlace 1 6 [.inr 0, .inl p1, .inl p2] M (xI M (f_X4_nodePlace p1 p2 M)) := by
  refine Zc.of (by decide) zi_X4_nodePlace.1 (Nat.le_of_ble_eq_true rfl) rfl ?_
  show Zg _ _ _ _ _ _ (zlet (f_X4_nodePlace p1 p2 M) (xI M)) _ _ _ _
  unfold f_X4_nodePlace
  refine zg_iload_n (x := p1) dX4_nodePlace_0 rfl ?_
  refine zg_cS1 (As := [.inl p1]) (S := []) (v := bI ((f_X4_isFile p1))) dX4_nodePlace_1 zk_X4_79 (k_X4_isFile q p1 M) rfl ⟨by decide, by decide⟩ ⟨by decide, by decide⟩ rfl (Nat.le_of_ble_eq_true rfl) ?_
  refine zg_st (pc' := 4) (L' := [some (.inr 0), some (.inl p1), some (.inl p2)]) (S' := [.inl (bI ((f_X4_isFile p1)))]) (M' := M) rfl rfl rfl rfl ?_
  refine zg_ifbn (tgt := 17) dX4_nodePlace_4 rfl (fun c4 => ?_) (fun c4 => ?_)
  · refine zg_st (pc' := 17) (L' := [some (.inr 0), some (.inl p1), some (.inl p2)]) (S' := []) (M' := M) rfl rfl rfl rfl ?_
    refine zg_aload_n (x := 0) dX4_nodePlace_17 rfl ?_
    refine zg_getf (v := .inr 2) dX4_nodePlace_18 zf_X4_19 rfl rfl rfl ?_
    refine zg_iload_n (x := p1) dX4_nodePlace_21 rfl ?_
    refine zg_cS1 (As := [.inl p1]) (S := [.inr 2]) (v := (f_X4_filePointer p1)) dX4_nodePlace_22 zk_X4_93 (k_X4_filePointer q p1 M) rfl ⟨by decide, by decide⟩ ⟨by decide, by decide⟩ rfl (Nat.le_of_ble_eq_true rfl) ?_
    refine zg_st (pc' := 25) (L' := [some (.inr 0), some (.inl p1), some (.inl p2)]) (S' := [.inl (f_X4_filePointer p1), .inr 2]) (M' := M) rfl rfl rfl rfl ?_
    refine zg_iload_n (x := p2) dX4_nodePlace_25 rfl ?_
    refine zg_cV1 (As := [.inl (f_X4_filePointer p1), .inl p2]) (S := []) (v := (f_X3_placeOf (f_X4_filePointer p1) p2 M)) dX4_nodePlace_26 zk_X4_209 (k_X3_placeOf q (f_X4_filePointer p1) p2 M) rfl rfl ⟨by decide, by decide⟩ ⟨by decide, by decide⟩ rfl (Nat.le_of_ble_eq_true rfl) ?_
    refine zg_st (pc' := 29) (L' := [some (.inr 0), some (.inl p1), some (.inl p2)]) (S' := [.inl (f_X3_placeOf (f_X4_filePointer p1) p2 M)]) (M' := M) rfl rfl rfl rfl ?_
    exact zg_cSX (As := [.inl (f_X3_placeOf (f_X4_filePointer p1) p2 M)]) dX4_nodePlace_29 dX4_nodePlace_32 rfl zk_X4_212 (k_X4_told q hq (f_X3_placeOf (f_X4_filePointer p1) p2 M) M) rfl ⟨by decide, by decide⟩ rfl
  · refine zg_st (pc' := 7) (L' := [some (.inr 0), some (.inl p1), some (.inl p2)]) (S' := []) (M' := M) rfl rfl rfl rfl ?_
    exact zg_throw (text := "file is out of range") hq zt_55 rfl (by decide) dX4_nodePlace_7 dX4_nodePlace_10 dX4_nodePlace_11 dX4_nodePlace_13 dX4_nodePlace_16 (by decide) (Nat.le_of_ble_eq_true rfl) (by decide) (by decide) rfl
theorem dX4_rootPlace_0 : decode cX4_rootPlace 0 = .ok (.aload_n 0, 1) := by decide +kernel
theorem dX4_rootPlace_1 : decode cX4_rootPlace 1 = .ok (.getfield 19, 3) := by decide +kernel
theorem dX4_rootPlace_4 : decode cX4_rootPlace 4 = .ok (.bipush 52, 2) := by decide +kernel
theorem dX4_rootPlace_6 : decode cX4_rootPlace 6 = .ok (.iload_n 1, 1) := by decide +kernel
theorem dX4_rootPlace_7 : decode cX4_rootPlace 7 = .ok (.invokevirtual 209, 3) := by decide +kernel
theorem dX4_rootPlace_10 : decode cX4_rootPlace 10 = .ok (.invokestatic 212, 3) := by decide +kernel
theorem dX4_rootPlace_13 : decode cX4_rootPlace 13 = .ok (.ireturn, 1) := by decide +kernel
def f_X4_rootPlace (p1 : Int32) (M : Mem) : (Int32 ⊕ String) :=
  f_X4_told (f_X3_placeOf 52 p1 M)
set_option maxRecDepth 100000 in
set_option maxHeartbeats 4000000 in
theorem k_X4_rootPlace (q : ZQ) (hq : q.1.stackTraces = false) (p1 : Int32) (M : Mem) : Zc (zgX q) mX4_rootPlace 1 6 [.inr 0, .inl p1] M (xI M (f_X4_rootPlace p1 M)) := by
  refine Zc.of (by decide) zi_X4_rootPlace.1 (Nat.le_of_ble_eq_true rfl) rfl ?_
  show Zg _ _ _ _ _ _ (zlet (f_X4_rootPlace p1 M) (xI M)) _ _ _ _
  unfold f_X4_rootPlace
  refine zg_aload_n (x := 0) dX4_rootPlace_0 rfl ?_
  refine zg_getf (v := .inr 2) dX4_rootPlace_1 zf_X4_19 rfl rfl rfl ?_
  refine zg_bipush (v := 52) dX4_rootPlace_4 rfl ?_
  refine zg_iload_n (x := p1) dX4_rootPlace_6 rfl ?_
  refine zg_cV1 (As := [.inl 52, .inl p1]) (S := []) (v := (f_X3_placeOf 52 p1 M)) dX4_rootPlace_7 zk_X4_209 (k_X3_placeOf q 52 p1 M) rfl rfl ⟨by decide, by decide⟩ ⟨by decide, by decide⟩ rfl (Nat.le_of_ble_eq_true rfl) ?_
  refine zg_st (pc' := 10) (L' := [some (.inr 0), some (.inl p1)]) (S' := [.inl (f_X3_placeOf 52 p1 M)]) (M' := M) rfl rfl rfl rfl ?_
  exact zg_cSX (As := [.inl (f_X3_placeOf 52 p1 M)]) dX4_rootPlace_10 dX4_rootPlace_13 rfl zk_X4_212 (k_X4_told q hq (f_X3_placeOf 52 p1 M) M) rfl ⟨by decide, by decide⟩ rfl
theorem dX4_birth_0 : decode cX4_birth 0 = .ok (.iload_n 1, 1) := by decide +kernel
theorem dX4_birth_1 : decode cX4_birth 1 = .ok (.iload_n 2, 1) := by decide +kernel
theorem dX4_birth_2 : decode cX4_birth 2 = .ok (.invokestatic 51, 3) := by decide +kernel
theorem dX4_birth_5 : decode cX4_birth 5 = .ok (.ifCond .ne 13, 3) := by decide +kernel
theorem dX4_birth_8 : decode cX4_birth 8 = .ok (.new 55, 3) := by decide +kernel
theorem dX4_birth_11 : decode cX4_birth 11 = .ok (.dup, 1) := by decide +kernel
theorem dX4_birth_12 : decode cX4_birth 12 = .ok (.ldc 84, 2) := by decide +kernel
theorem dX4_birth_14 : decode cX4_birth 14 = .ok (.invokespecial 59, 3) := by decide +kernel
theorem dX4_birth_17 : decode cX4_birth 17 = .ok (.athrow, 1) := by decide +kernel
theorem dX4_birth_18 : decode cX4_birth 18 = .ok (.aload_n 0, 1) := by decide +kernel
theorem dX4_birth_19 : decode cX4_birth 19 = .ok (.getfield 19, 3) := by decide +kernel
theorem dX4_birth_22 : decode cX4_birth 22 = .ok (.iload_n 1, 1) := by decide +kernel
theorem dX4_birth_23 : decode cX4_birth 23 = .ok (.iload_n 2, 1) := by decide +kernel
theorem dX4_birth_24 : decode cX4_birth 24 = .ok (.invokestatic 66, 3) := by decide +kernel
theorem dX4_birth_27 : decode cX4_birth 27 = .ok (.invokevirtual 217, 3) := by decide +kernel
theorem dX4_birth_30 : decode cX4_birth 30 = .ok (.ireturn, 1) := by decide +kernel
def f_X4_birth (p1 : Int32) (p2 : Int32) (M : Mem) : (Int32 ⊕ String) :=
  if (f_X4_isBlockOfFile p1 p2) then .inl (f_X3_birthOf (f_X4_blockPointer p1 p2) M)
  else .inr "java/lang/IllegalArgumentException"
set_option maxRecDepth 100000 in
set_option maxHeartbeats 4000000 in
theorem k_X4_birth (q : ZQ) (hq : q.1.stackTraces = false) (p1 : Int32) (p2 : Int32) (M : Mem) : Zc (zgX q) mX4_birth 1 6 [.inr 0, .inl p1, .inl p2] M (xI M (f_X4_birth p1 p2 M)) := by
  refine Zc.of (by decide) zi_X4_birth.1 (Nat.le_of_ble_eq_true rfl) rfl ?_
  show Zg _ _ _ _ _ _ (zlet (f_X4_birth p1 p2 M) (xI M)) _ _ _ _
  unfold f_X4_birth
  refine zg_iload_n (x := p1) dX4_birth_0 rfl ?_
  refine zg_iload_n (x := p2) dX4_birth_1 rfl ?_
  refine zg_cS1 (As := [.inl p1, .inl p2]) (S := []) (v := bI ((f_X4_isBlockOfFile p1 p2))) dX4_birth_2 zk_X4_51 (k_X4_isBlockOfFile q p1 p2 M) rfl ⟨by decide, by decide⟩ ⟨by decide, by decide⟩ rfl (Nat.le_of_ble_eq_true rfl) ?_
  refine zg_st (pc' := 5) (L' := [some (.inr 0), some (.inl p1), some (.inl p2)]) (S' := [.inl (bI ((f_X4_isBlockOfFile p1 p2)))]) (M' := M) rfl rfl rfl rfl ?_
  refine zg_ifbn (tgt := 18) dX4_birth_5 rfl (fun c5 => ?_) (fun c5 => ?_)
  · refine zg_st (pc' := 18) (L' := [some (.inr 0), some (.inl p1), some (.inl p2)]) (S' := []) (M' := M) rfl rfl rfl rfl ?_
    refine zg_aload_n (x := 0) dX4_birth_18 rfl ?_
    refine zg_getf (v := .inr 2) dX4_birth_19 zf_X4_19 rfl rfl rfl ?_
    refine zg_iload_n (x := p1) dX4_birth_22 rfl ?_
    refine zg_iload_n (x := p2) dX4_birth_23 rfl ?_
    refine zg_cS1 (As := [.inl p1, .inl p2]) (S := [.inr 2]) (v := (f_X4_blockPointer p1 p2)) dX4_birth_24 zk_X4_66 (k_X4_blockPointer q p1 p2 M) rfl ⟨by decide, by decide⟩ ⟨by decide, by decide⟩ rfl (Nat.le_of_ble_eq_true rfl) ?_
    refine zg_st (pc' := 27) (L' := [some (.inr 0), some (.inl p1), some (.inl p2)]) (S' := [.inl (f_X4_blockPointer p1 p2), .inr 2]) (M' := M) rfl rfl rfl rfl ?_
    refine zg_cV1 (As := [.inl (f_X4_blockPointer p1 p2)]) (S := []) (v := (f_X3_birthOf (f_X4_blockPointer p1 p2) M)) dX4_birth_27 zk_X4_217 (k_X3_birthOf q (f_X4_blockPointer p1 p2) M) rfl rfl ⟨by decide, by decide⟩ ⟨by decide, by decide⟩ rfl (Nat.le_of_ble_eq_true rfl) ?_
    refine zg_st (pc' := 30) (L' := [some (.inr 0), some (.inl p1), some (.inl p2)]) (S' := [.inl (f_X3_birthOf (f_X4_blockPointer p1 p2) M)]) (M' := M) rfl rfl rfl rfl ?_
    exact zg_iret dX4_birth_30 rfl rfl ⟨by decide, by decide⟩ rfl
  · refine zg_st (pc' := 8) (L' := [some (.inr 0), some (.inl p1), some (.inl p2)]) (S' := []) (M' := M) rfl rfl rfl rfl ?_
    exact zg_throw (text := "file or block is out of range") hq zt_55 rfl (by decide) dX4_birth_8 dX4_birth_11 dX4_birth_12 dX4_birth_14 dX4_birth_17 (by decide) (Nat.le_of_ble_eq_true rfl) (by decide) (by decide) rfl
theorem dX4_checksum_0 : decode cX4_checksum 0 = .ok (.iload_n 1, 1) := by decide +kernel
theorem dX4_checksum_1 : decode cX4_checksum 1 = .ok (.invokestatic 79, 3) := by decide +kernel
theorem dX4_checksum_4 : decode cX4_checksum 4 = .ok (.ifCond .ne 13, 3) := by decide +kernel
theorem dX4_checksum_7 : decode cX4_checksum 7 = .ok (.new 55, 3) := by decide +kernel
theorem dX4_checksum_10 : decode cX4_checksum 10 = .ok (.dup, 1) := by decide +kernel
theorem dX4_checksum_11 : decode cX4_checksum 11 = .ok (.ldc 215, 2) := by decide +kernel
theorem dX4_checksum_13 : decode cX4_checksum 13 = .ok (.invokespecial 59, 3) := by decide +kernel
theorem dX4_checksum_16 : decode cX4_checksum 16 = .ok (.athrow, 1) := by decide +kernel
theorem dX4_checksum_17 : decode cX4_checksum 17 = .ok (.aload_n 0, 1) := by decide +kernel
theorem dX4_checksum_18 : decode cX4_checksum 18 = .ok (.getfield 19, 3) := by decide +kernel
theorem dX4_checksum_21 : decode cX4_checksum 21 = .ok (.iload_n 1, 1) := by decide +kernel
theorem dX4_checksum_22 : decode cX4_checksum 22 = .ok (.invokestatic 93, 3) := by decide +kernel
theorem dX4_checksum_25 : decode cX4_checksum 25 = .ok (.invokevirtual 220, 3) := by decide +kernel
theorem dX4_checksum_28 : decode cX4_checksum 28 = .ok (.ireturn, 1) := by decide +kernel
def f_X4_checksum (p1 : Int32) (M : Mem) : (Int32 ⊕ String) :=
  if (f_X4_isFile p1) then .inl (f_X3_checksumOf (f_X4_filePointer p1) M)
  else .inr "java/lang/IllegalArgumentException"
set_option maxRecDepth 100000 in
set_option maxHeartbeats 4000000 in
theorem k_X4_checksum (q : ZQ) (hq : q.1.stackTraces = false) (p1 : Int32) (M : Mem) : Zc (zgX q) mX4_checksum 1 6 [.inr 0, .inl p1] M (xI M (f_X4_checksum p1 M)) := by
  refine Zc.of (by decide) zi_X4_checksum.1 (Nat.le_of_ble_eq_true rfl) rfl ?_
  show Zg _ _ _ _ _ _ (zlet (f_X4_checksum p1 M) (xI M)) _ _ _ _
  unfold f_X4_checksum
  refine zg_iload_n (x := p1) dX4_checksum_0 rfl ?_
  refine zg_cS1 (As := [.inl p1]) (S := []) (v := bI ((f_X4_isFile p1))) dX4_checksum_1 zk_X4_79 (k_X4_isFile q p1 M) rfl ⟨by decide, by decide⟩ ⟨by decide, by decide⟩ rfl (Nat.le_of_ble_eq_true rfl) ?_
  refine zg_st (pc' := 4) (L' := [some (.inr 0), some (.inl p1)]) (S' := [.inl (bI ((f_X4_isFile p1)))]) (M' := M) rfl rfl rfl rfl ?_
  refine zg_ifbn (tgt := 17) dX4_checksum_4 rfl (fun c4 => ?_) (fun c4 => ?_)
  · refine zg_st (pc' := 17) (L' := [some (.inr 0), some (.inl p1)]) (S' := []) (M' := M) rfl rfl rfl rfl ?_
    refine zg_aload_n (x := 0) dX4_checksum_17 rfl ?_
    refine zg_getf (v := .inr 2) dX4_checksum_18 zf_X4_19 rfl rfl rfl ?_
    refine zg_iload_n (x := p1) dX4_checksum_21 rfl ?_
    refine zg_cS1 (As := [.inl p1]) (S := [.inr 2]) (v := (f_X4_filePointer p1)) dX4_checksum_22 zk_X4_93 (k_X4_filePointer q p1 M) rfl ⟨by decide, by decide⟩ ⟨by decide, by decide⟩ rfl (Nat.le_of_ble_eq_true rfl) ?_
    refine zg_st (pc' := 25) (L' := [some (.inr 0), some (.inl p1)]) (S' := [.inl (f_X4_filePointer p1), .inr 2]) (M' := M) rfl rfl rfl rfl ?_
    refine zg_cV1 (As := [.inl (f_X4_filePointer p1)]) (S := []) (v := (f_X3_checksumOf (f_X4_filePointer p1) M)) dX4_checksum_25 zk_X4_220 (k_X3_checksumOf q (f_X4_filePointer p1) M) rfl rfl ⟨by decide, by decide⟩ ⟨by decide, by decide⟩ rfl (Nat.le_of_ble_eq_true rfl) ?_
    refine zg_st (pc' := 28) (L' := [some (.inr 0), some (.inl p1)]) (S' := [.inl (f_X3_checksumOf (f_X4_filePointer p1) M)]) (M' := M) rfl rfl rfl rfl ?_
    exact zg_iret dX4_checksum_28 rfl rfl ⟨by decide, by decide⟩ rfl
  · refine zg_st (pc' := 7) (L' := [some (.inr 0), some (.inl p1)]) (S' := []) (M' := M) rfl rfl rfl rfl ?_
    exact zg_throw (text := "file is out of range") hq zt_55 rfl (by decide) dX4_checksum_7 dX4_checksum_10 dX4_checksum_11 dX4_checksum_13 dX4_checksum_16 (by decide) (Nat.le_of_ble_eq_true rfl) (by decide) (by decide) rfl
theorem dX4_rootChecksum_0 : decode cX4_rootChecksum 0 = .ok (.aload_n 0, 1) := by decide +kernel
theorem dX4_rootChecksum_1 : decode cX4_rootChecksum 1 = .ok (.getfield 19, 3) := by decide +kernel
theorem dX4_rootChecksum_4 : decode cX4_rootChecksum 4 = .ok (.bipush 52, 2) := by decide +kernel
theorem dX4_rootChecksum_6 : decode cX4_rootChecksum 6 = .ok (.invokevirtual 220, 3) := by decide +kernel
theorem dX4_rootChecksum_9 : decode cX4_rootChecksum 9 = .ok (.ireturn, 1) := by decide +kernel
def f_X4_rootChecksum (M : Mem) : Int32 :=
  (f_X3_checksumOf 52 M)
set_option maxRecDepth 100000 in
set_option maxHeartbeats 4000000 in
theorem k_X4_rootChecksum (q : ZQ) (M : Mem) : Zc (zgX q) mX4_rootChecksum 0 0 [.inr 0] M (wI M (f_X4_rootChecksum M)) := by
  refine Zc.of (by decide) zi_X4_rootChecksum.1 (Nat.le_of_ble_eq_true rfl) rfl ?_
  show Zg _ _ _ _ _ _ (zlet (f_X4_rootChecksum M) (wI M)) _ _ _ _
  unfold f_X4_rootChecksum
  refine zg_aload_n (x := 0) dX4_rootChecksum_0 rfl ?_
  refine zg_getf (v := .inr 2) dX4_rootChecksum_1 zf_X4_19 rfl rfl rfl ?_
  refine zg_bipush (v := 52) dX4_rootChecksum_4 rfl ?_
  refine zg_cV1 (As := [.inl 52]) (S := []) (v := (f_X3_checksumOf 52 M)) dX4_rootChecksum_6 zk_X4_220 (k_X3_checksumOf q 52 M) rfl rfl ⟨by decide, by decide⟩ ⟨by decide, by decide⟩ rfl (Nat.le_of_ble_eq_true rfl) ?_
  refine zg_st (pc' := 9) (L' := [some (.inr 0)]) (S' := [.inl (f_X3_checksumOf 52 M)]) (M' := M) rfl rfl rfl rfl ?_
  exact zg_iret dX4_rootChecksum_9 rfl rfl ⟨by decide, by decide⟩ rfl
