theorem dX5_write_0 : decode cX5_write 0 = .ok (.aload_n 0, 1) := by decide +kernel
theorem dX5_write_1 : decode cX5_write 1 = .ok (.iload_n 1, 1) := by decide +kernel
theorem dX5_write_2 : decode cX5_write 2 = .ok (.iload_n 2, 1) := by decide +kernel
theorem dX5_write_3 : decode cX5_write 3 = .ok (.invokestatic 70, 3) := by decide +kernel
theorem dX5_write_6 : decode cX5_write 6 = .ok (.ifCond .eq 18, 3) := by decide +kernel
theorem dX5_write_9 : decode cX5_write 9 = .ok (.iload_n 3, 1) := by decide +kernel
theorem dX5_write_10 : decode cX5_write 10 = .ok (.iconst 1, 1) := by decide +kernel
theorem dX5_write_11 : decode cX5_write 11 = .ok (.sipush 9999, 3) := by decide +kernel
theorem dX5_write_14 : decode cX5_write 14 = .ok (.invokestatic 66, 3) := by decide +kernel
theorem dX5_write_17 : decode cX5_write 17 = .ok (.ifCond .eq 7, 3) := by decide +kernel
theorem dX5_write_20 : decode cX5_write 20 = .ok (.iconst 0, 1) := by decide +kernel
theorem dX5_write_21 : decode cX5_write 21 = .ok (.goto 4, 3) := by decide +kernel
theorem dX5_write_24 : decode cX5_write 24 = .ok (.iconst 1, 1) := by decide +kernel
theorem dX5_write_25 : decode cX5_write 25 = .ok (.invokevirtual 74, 3) := by decide +kernel
theorem dX5_write_28 : decode cX5_write 28 = .ok (.ifCond .eq 5, 3) := by decide +kernel
theorem dX5_write_31 : decode cX5_write 31 = .ok (.iconst 0, 1) := by decide +kernel
theorem dX5_write_32 : decode cX5_write 32 = .ok (.ireturn, 1) := by decide +kernel
theorem dX5_write_33 : decode cX5_write 33 = .ok (.aload_n 0, 1) := by decide +kernel
theorem dX5_write_34 : decode cX5_write 34 = .ok (.bipush 12, 2) := by decide +kernel
theorem dX5_write_36 : decode cX5_write 36 = .ok (.iload_n 1, 1) := by decide +kernel
theorem dX5_write_37 : decode cX5_write 37 = .ok (.imul, 1) := by decide +kernel
theorem dX5_write_38 : decode cX5_write 38 = .ok (.iload_n 2, 1) := by decide +kernel
theorem dX5_write_39 : decode cX5_write 39 = .ok (.iadd, 1) := by decide +kernel
theorem dX5_write_40 : decode cX5_write 40 = .ok (.invokevirtual 78, 3) := by decide +kernel
theorem dX5_write_43 : decode cX5_write 43 = .ok (.istore 4, 2) := by decide +kernel
theorem dX5_write_45 : decode cX5_write 45 = .ok (.aload_n 0, 1) := by decide +kernel
theorem dX5_write_46 : decode cX5_write 46 = .ok (.getfield 20, 3) := by decide +kernel
theorem dX5_write_49 : decode cX5_write 49 = .ok (.bipush 12, 2) := by decide +kernel
theorem dX5_write_51 : decode cX5_write 51 = .ok (.iload_n 1, 1) := by decide +kernel
theorem dX5_write_52 : decode cX5_write 52 = .ok (.imul, 1) := by decide +kernel
theorem dX5_write_53 : decode cX5_write 53 = .ok (.iload_n 2, 1) := by decide +kernel
theorem dX5_write_54 : decode cX5_write 54 = .ok (.iadd, 1) := by decide +kernel
theorem dX5_write_55 : decode cX5_write 55 = .ok (.iload_n 3, 1) := by decide +kernel
theorem dX5_write_56 : decode cX5_write 56 = .ok (.iastore, 1) := by decide +kernel
theorem dX5_write_57 : decode cX5_write 57 = .ok (.iload 4, 2) := by decide +kernel
theorem dX5_write_59 : decode cX5_write 59 = .ok (.ireturn, 1) := by decide +kernel
def f_X5_write (p1 : Int32) (p2 : Int32) (p3 : Int32) (M : Mem) : (Int32 × Mem) :=
  if (f_X5_isBlock p1 p2) then if (f_X5_in p3 1 9999) then ((f_X5_now ((12 * p1) + p2) (mup M 0 0 0)), (mup (mup M 0 0 0) 3 ((12 * p1) + p2).toNatClampNeg p3))
    else (0, (mup M 0 0 1))
  else (0, (mup M 0 0 1))
set_option maxRecDepth 100000 in
set_option maxHeartbeats 4000000 in
theorem k_X5_write (q : ZQ) (p1 : Int32) (p2 : Int32) (p3 : Int32) (M : Mem) : Zc (zgM q) mX5_write 0 0 [.inr 0, .inl p1, .inl p2, .inl p3] M (wIM (f_X5_write p1 p2 p3 M)) := by
  refine Zc.of (by decide) zi_X5_write.1 (Nat.le_of_ble_eq_true rfl) rfl ?_
  show Zg _ _ _ _ _ _ (zlet (f_X5_write p1 p2 p3 M) wIM) _ _ _ _
  unfold f_X5_write
  refine zg_aload_n (x := 0) dX5_write_0 rfl ?_
  refine zg_iload_n (x := p1) dX5_write_1 rfl ?_
  refine zg_iload_n (x := p2) dX5_write_2 rfl ?_
  refine zg_cS1 (As := [.inl p1, .inl p2]) (S := [.inr 0]) (v := bI ((f_X5_isBlock p1 p2))) dX5_write_3 zk_X5_70 (k_X5_isBlock q p1 p2 M) rfl ⟨by decide, by decide⟩ ⟨by decide, by decide⟩ rfl (Nat.le_of_ble_eq_true rfl) ?_
  refine zg_st (pc' := 6) (L' := [some (.inr 0), some (.inl p1), some (.inl p2), some (.inl p3), none]) (S' := [.inl (bI ((f_X5_isBlock p1 p2))), .inr 0]) (M' := M) rfl rfl rfl rfl ?_
  refine zg_ifbe (tgt := 24) dX5_write_6 rfl (fun c6 => ?_) (fun c6 => ?_)
  · refine zg_st (pc' := 9) (L' := [some (.inr 0), some (.inl p1), some (.inl p2), some (.inl p3), none]) (S' := [.inr 0]) (M' := M) rfl rfl rfl rfl ?_
    refine zg_iload_n (x := p3) dX5_write_9 rfl ?_
    refine zg_iconst (v := 1) dX5_write_10 rfl ?_
    refine zg_sipush (v := 9999) dX5_write_11 rfl ?_
    refine zg_cS1 (As := [.inl p3, .inl 1, .inl 9999]) (S := [.inr 0]) (v := bI ((f_X5_in p3 1 9999))) dX5_write_14 zk_X5_66 (k_X5_in q p3 1 9999 M) rfl ⟨by decide, by decide⟩ ⟨by decide, by decide⟩ rfl (Nat.le_of_ble_eq_true rfl) ?_
    refine zg_st (pc' := 17) (L' := [some (.inr 0), some (.inl p1), some (.inl p2), some (.inl p3), none]) (S' := [.inl (bI ((f_X5_in p3 1 9999))), .inr 0]) (M' := M) rfl rfl rfl rfl ?_
    refine zg_ifbe (tgt := 24) dX5_write_17 rfl (fun c17 => ?_) (fun c17 => ?_)
    · refine zg_st (pc' := 20) (L' := [some (.inr 0), some (.inl p1), some (.inl p2), some (.inl p3), none]) (S' := [.inr 0]) (M' := M) rfl rfl rfl rfl ?_
      refine zg_iconst (v := 0) dX5_write_20 rfl ?_
      refine zg_goto (tgt := 25) dX5_write_21 rfl ?_
      refine zg_st (pc' := 25) (L' := [some (.inr 0), some (.inl p1), some (.inl p2), some (.inl p3), none]) (S' := [.inl 0, .inr 0]) (M' := M) rfl rfl rfl rfl ?_
      refine zg_cV1 (As := [.inl 0]) (S := []) (v := 0) (N0 := (mup M 0 0 0)) dX5_write_25 zk_X5_74 (k_X5_refused q 0 M) rfl rfl ⟨by decide, by decide⟩ ⟨by decide, by decide⟩ rfl (Nat.le_of_ble_eq_true rfl) ?_
      refine zg_st (pc' := 28) (L' := [some (.inr 0), some (.inl p1), some (.inl p2), some (.inl p3), none]) (S' := [.inl 0]) (M' := (mup M 0 0 0)) rfl rfl rfl rfl ?_
      refine zg_jt (tgt := 33) dX5_write_28 rfl (show (0 : Int32) = 0 from by decide) ?_
      refine zg_st (pc' := 33) (L' := [some (.inr 0), some (.inl p1), some (.inl p2), some (.inl p3), none]) (S' := []) (M' := (mup M 0 0 0)) rfl rfl rfl rfl ?_
      refine zg_aload_n (x := 0) dX5_write_33 rfl ?_
      refine zg_bipush (v := 12) dX5_write_34 rfl ?_
      refine zg_iload_n (x := p1) dX5_write_36 rfl ?_
      refine zg_imul dX5_write_37 ?_
      refine zg_iload_n (x := p2) dX5_write_38 rfl ?_
      refine zg_iadd dX5_write_39 ?_
      refine zg_cV1 (As := [.inl ((12 * p1) + p2)]) (S := []) (v := (f_X5_now ((12 * p1) + p2) (mup M 0 0 0))) dX5_write_40 zk_X5_78 (k_X5_now q ((12 * p1) + p2) (mup M 0 0 0) (z_b48 c6)) rfl rfl ⟨by decide, by decide⟩ ⟨by decide, by decide⟩ rfl (Nat.le_of_ble_eq_true rfl) ?_
      refine zg_st (pc' := 43) (L' := [some (.inr 0), some (.inl p1), some (.inl p2), some (.inl p3), none]) (S' := [.inl (f_X5_now ((12 * p1) + p2) (mup M 0 0 0))]) (M' := (mup M 0 0 0)) rfl rfl rfl rfl ?_
      refine zg_istore dX5_write_43 (by decide) ?_
      refine zg_st (pc' := 45) (L' := [some (.inr 0), some (.inl p1), some (.inl p2), some (.inl p3), some (.inl (f_X5_now ((12 * p1) + p2) (mup M 0 0 0)))]) (S' := []) (M' := (mup M 0 0 0)) rfl rfl rfl rfl ?_
      refine zg_aload_n (x := 0) dX5_write_45 rfl ?_
      refine zg_getf (v := .inr 3) dX5_write_46 zf_X5_20 rfl rfl rfl ?_
      refine zg_bipush (v := 12) dX5_write_49 rfl ?_
      refine zg_iload_n (x := p1) dX5_write_51 rfl ?_
      refine zg_imul dX5_write_52 ?_
      refine zg_iload_n (x := p2) dX5_write_53 rfl ?_
      refine zg_iadd dX5_write_54 ?_
      refine zg_iload_n (x := p3) dX5_write_55 rfl ?_
      refine zg_iast dX5_write_56 rfl (z_b48 c6) ?_
      refine zg_iload (x := (f_X5_now ((12 * p1) + p2) (mup M 0 0 0))) dX5_write_57 rfl ?_
      exact zg_iret dX5_write_59 rfl rfl ⟨by decide, by decide⟩ rfl
    · refine zg_st (pc' := 24) (L' := [some (.inr 0), some (.inl p1), some (.inl p2), some (.inl p3), none]) (S' := [.inr 0]) (M' := M) rfl rfl rfl rfl ?_
      refine zg_iconst (v := 1) dX5_write_24 rfl ?_
      refine zg_cV1 (As := [.inl 1]) (S := []) (v := 1) (N0 := (mup M 0 0 1)) dX5_write_25 zk_X5_74 (k_X5_refused q 1 M) rfl rfl ⟨by decide, by decide⟩ ⟨by decide, by decide⟩ rfl (Nat.le_of_ble_eq_true rfl) ?_
      refine zg_st (pc' := 28) (L' := [some (.inr 0), some (.inl p1), some (.inl p2), some (.inl p3), none]) (S' := [.inl 1]) (M' := (mup M 0 0 1)) rfl rfl rfl rfl ?_
      refine zg_jf (tgt := 33) dX5_write_28 rfl (show ¬ ((1 : Int32) = 0) from by decide) ?_
      refine zg_st (pc' := 31) (L' := [some (.inr 0), some (.inl p1), some (.inl p2), some (.inl p3), none]) (S' := []) (M' := (mup M 0 0 1)) rfl rfl rfl rfl ?_
      refine zg_iconst (v := 0) dX5_write_31 rfl ?_
      exact zg_iret dX5_write_32 rfl rfl ⟨by decide, by decide⟩ rfl
  · refine zg_st (pc' := 24) (L' := [some (.inr 0), some (.inl p1), some (.inl p2), some (.inl p3), none]) (S' := [.inr 0]) (M' := M) rfl rfl rfl rfl ?_
    refine zg_iconst (v := 1) dX5_write_24 rfl ?_
    refine zg_cV1 (As := [.inl 1]) (S := []) (v := 1) (N0 := (mup M 0 0 1)) dX5_write_25 zk_X5_74 (k_X5_refused q 1 M) rfl rfl ⟨by decide, by decide⟩ ⟨by decide, by decide⟩ rfl (Nat.le_of_ble_eq_true rfl) ?_
    refine zg_st (pc' := 28) (L' := [some (.inr 0), some (.inl p1), some (.inl p2), some (.inl p3), none]) (S' := [.inl 1]) (M' := (mup M 0 0 1)) rfl rfl rfl rfl ?_
    refine zg_jf (tgt := 33) dX5_write_28 rfl (show ¬ ((1 : Int32) = 0) from by decide) ?_
    refine zg_st (pc' := 31) (L' := [some (.inr 0), some (.inl p1), some (.inl p2), some (.inl p3), none]) (S' := []) (M' := (mup M 0 0 1)) rfl rfl rfl rfl ?_
    refine zg_iconst (v := 0) dX5_write_31 rfl ?_
    exact zg_iret dX5_write_32 rfl rfl ⟨by decide, by decide⟩ rfl
theorem dX5_punch_0 : decode cX5_punch 0 = .ok (.aload_n 0, 1) := by decide +kernel
theorem dX5_punch_1 : decode cX5_punch 1 = .ok (.iload_n 1, 1) := by decide +kernel
theorem dX5_punch_2 : decode cX5_punch 2 = .ok (.iload_n 2, 1) := by decide +kernel
theorem dX5_punch_3 : decode cX5_punch 3 = .ok (.invokestatic 70, 3) := by decide +kernel
theorem dX5_punch_6 : decode cX5_punch 6 = .ok (.ifCond .eq 17, 3) := by decide +kernel
theorem dX5_punch_9 : decode cX5_punch 9 = .ok (.iload_n 3, 1) := by decide +kernel
theorem dX5_punch_10 : decode cX5_punch 10 = .ok (.iload_n 2, 1) := by decide +kernel
theorem dX5_punch_11 : decode cX5_punch 11 = .ok (.bipush 11, 2) := by decide +kernel
theorem dX5_punch_13 : decode cX5_punch 13 = .ok (.invokestatic 66, 3) := by decide +kernel
theorem dX5_punch_16 : decode cX5_punch 16 = .ok (.ifCond .eq 7, 3) := by decide +kernel
theorem dX5_punch_19 : decode cX5_punch 19 = .ok (.iconst 0, 1) := by decide +kernel
theorem dX5_punch_20 : decode cX5_punch 20 = .ok (.goto 4, 3) := by decide +kernel
theorem dX5_punch_23 : decode cX5_punch 23 = .ok (.iconst 1, 1) := by decide +kernel
theorem dX5_punch_24 : decode cX5_punch 24 = .ok (.invokevirtual 74, 3) := by decide +kernel
theorem dX5_punch_27 : decode cX5_punch 27 = .ok (.ifCond .eq 5, 3) := by decide +kernel
theorem dX5_punch_30 : decode cX5_punch 30 = .ok (.iconst 0, 1) := by decide +kernel
theorem dX5_punch_31 : decode cX5_punch 31 = .ok (.ireturn, 1) := by decide +kernel
theorem dX5_punch_32 : decode cX5_punch 32 = .ok (.iconst 0, 1) := by decide +kernel
theorem dX5_punch_33 : decode cX5_punch 33 = .ok (.istore 4, 2) := by decide +kernel
theorem dX5_punch_35 : decode cX5_punch 35 = .ok (.bipush 12, 2) := by decide +kernel
theorem dX5_punch_37 : decode cX5_punch 37 = .ok (.iload_n 1, 1) := by decide +kernel
theorem dX5_punch_38 : decode cX5_punch 38 = .ok (.imul, 1) := by decide +kernel
theorem dX5_punch_39 : decode cX5_punch 39 = .ok (.iload_n 2, 1) := by decide +kernel
theorem dX5_punch_40 : decode cX5_punch 40 = .ok (.iadd, 1) := by decide +kernel
theorem dX5_punch_41 : decode cX5_punch 41 = .ok (.istore 5, 2) := by decide +kernel
theorem dX5_punch_43 : decode cX5_punch 43 = .ok (.iload 5, 2) := by decide +kernel
theorem dX5_punch_45 : decode cX5_punch 45 = .ok (.bipush 12, 2) := by decide +kernel
theorem dX5_punch_47 : decode cX5_punch 47 = .ok (.iload_n 1, 1) := by decide +kernel
theorem dX5_punch_48 : decode cX5_punch 48 = .ok (.imul, 1) := by decide +kernel
theorem dX5_punch_49 : decode cX5_punch 49 = .ok (.iload_n 3, 1) := by decide +kernel
theorem dX5_punch_50 : decode cX5_punch 50 = .ok (.iadd, 1) := by decide +kernel
theorem dX5_punch_51 : decode cX5_punch 51 = .ok (.if_icmp .gt 36, 3) := by decide +kernel
theorem dX5_punch_54 : decode cX5_punch 54 = .ok (.iload 4, 2) := by decide +kernel
theorem dX5_punch_56 : decode cX5_punch 56 = .ok (.aload_n 0, 1) := by decide +kernel
theorem dX5_punch_57 : decode cX5_punch 57 = .ok (.iload 5, 2) := by decide +kernel
theorem dX5_punch_59 : decode cX5_punch 59 = .ok (.invokevirtual 78, 3) := by decide +kernel
theorem dX5_punch_62 : decode cX5_punch 62 = .ok (.ifCond .ne 7, 3) := by decide +kernel
theorem dX5_punch_65 : decode cX5_punch 65 = .ok (.iconst 0, 1) := by decide +kernel
theorem dX5_punch_66 : decode cX5_punch 66 = .ok (.goto 4, 3) := by decide +kernel
theorem dX5_punch_69 : decode cX5_punch 69 = .ok (.iconst 1, 1) := by decide +kernel
theorem dX5_punch_70 : decode cX5_punch 70 = .ok (.iadd, 1) := by decide +kernel
theorem dX5_punch_71 : decode cX5_punch 71 = .ok (.istore 4, 2) := by decide +kernel
theorem dX5_punch_73 : decode cX5_punch 73 = .ok (.aload_n 0, 1) := by decide +kernel
theorem dX5_punch_74 : decode cX5_punch 74 = .ok (.getfield 20, 3) := by decide +kernel
theorem dX5_punch_77 : decode cX5_punch 77 = .ok (.iload 5, 2) := by decide +kernel
theorem dX5_punch_79 : decode cX5_punch 79 = .ok (.iconst 0, 1) := by decide +kernel
theorem dX5_punch_80 : decode cX5_punch 80 = .ok (.iastore, 1) := by decide +kernel
theorem dX5_punch_81 : decode cX5_punch 81 = .ok (.iinc 5 1, 3) := by decide +kernel
theorem dX5_punch_84 : decode cX5_punch 84 = .ok (.goto (-41), 3) := by decide +kernel
theorem dX5_punch_87 : decode cX5_punch 87 = .ok (.iload 4, 2) := by decide +kernel
theorem dX5_punch_89 : decode cX5_punch 89 = .ok (.ireturn, 1) := by decide +kernel
def b_X5_punch_43 (x1 : Int32) (x3 : Int32) (rec : Int32 → Int32 → Mem → Int32 × Int32 × Mem) (v4 : Int32) (v5 : Int32) (N : Mem) : Int32 × Int32 × Mem :=
  if ((12 * x1) + x3) < v5 then (v4, v5, N)
  else if ¬ (f_X5_now v5 N) = 0 then rec (v4 + 1) (v5 + 1) (mup N 3 v5.toNatClampNeg 0)
  else rec (v4 + 0) (v5 + 1) (mup N 3 v5.toNatClampNeg 0)
def l_X5_punch_43 (x1 : Int32) (x3 : Int32) : Nat → Int32 → Int32 → Mem → Int32 × Int32 × Mem
  | 0, v4, v5, N => (v4, v5, N)
  | n + 1, v4, v5, N => b_X5_punch_43 x1 x3 (l_X5_punch_43 x1 x3 n) v4 v5 N
set_option maxRecDepth 100000 in
set_option maxHeartbeats 4000000 in
theorem kl_X5_punch_43 (q : ZQ) (x1 : Int32) (x3 : Int32) (hx1 : (0 ≤ x1.toInt ∧ x1.toInt < 4) ∧ 0 ≤ x3.toInt ∧ x3.toInt < 12) {K : Int32 × Int32 × Mem → ZR} (hx : ∀ e : Int32 × Int32 × Mem, (0 : Int) ≤ e.2.1.toInt → Zg (zgM q) mX5_punch 0 0 0 0 (K e) 87 [some (.inr 0), some (.inl x1), none, some (.inl x3), some (.inl e.1), some (.inl e.2.1)] [] e.2.2) :
    ∀ (n : Nat) (v4 : Int32) (v5 : Int32) (N : Mem), (0 : Int) ≤ v5.toInt → ((((12 * x1) + x3) : Int32).toInt + 1 - (v5 : Int32).toInt).toNat < n → Zg (zgM q) mX5_punch 0 0 0 0 (zlet (l_X5_punch_43 x1 x3 n v4 v5 N) K) 43 [some (.inr 0), some (.inl x1), none, some (.inl x3), some (.inl v4), some (.inl v5)] [] N := by
  intro n
  induction n with
  | zero => intro v4 v5 N hI hm; exact absurd hm (Nat.not_lt_zero _)
  | succ n ih =>
    intro v4 v5 N hI hm
    show Zg _ _ _ _ _ _ (zlet (b_X5_punch_43 x1 x3 (l_X5_punch_43 x1 x3 n) v4 v5 N) K) _ _ _ _
    unfold b_X5_punch_43
    refine zg_iload (x := v5) dX5_punch_43 rfl ?_
    refine zg_bipush (v := 12) dX5_punch_45 rfl ?_
    refine zg_iload_n (x := x1) dX5_punch_47 rfl ?_
    refine zg_imul dX5_punch_48 ?_
    refine zg_iload_n (x := x3) dX5_punch_49 rfl ?_
    refine zg_iadd dX5_punch_50 ?_
    refine zg_icmpz (tgt := 87) dX5_punch_51 rfl rfl (fun c51 => ?_) (fun c51 => ?_)
    · refine zg_st (pc' := 87) (L' := [some (.inr 0), some (.inl x1), none, some (.inl x3), some (.inl v4), some (.inl v5)]) (S' := []) (M' := N) rfl rfl rfl rfl ?_
      refine zg_drop (L' := [some (.inr 0), some (.inl x1), none, some (.inl x3), some (.inl v4), some (.inl v5)]) ⟨rfl, rfl, rfl, rfl, rfl, trivial⟩ ?_
      exact hx (v4, v5, N) hI
    · refine zg_st (pc' := 54) (L' := [some (.inr 0), some (.inl x1), none, some (.inl x3), some (.inl v4), some (.inl v5)]) (S' := []) (M' := N) rfl rfl rfl rfl ?_
      refine zg_iload (x := v4) dX5_punch_54 rfl ?_
      refine zg_aload_n (x := 0) dX5_punch_56 rfl ?_
      refine zg_iload (x := v5) dX5_punch_57 rfl ?_
      refine zg_cV1 (As := [.inl v5]) (S := [.inl v4]) (v := (f_X5_now v5 N)) dX5_punch_59 zk_X5_78 (k_X5_now q v5 N (z_pv c51 hx1 hI)) rfl rfl ⟨by decide, by decide⟩ ⟨by decide, by decide⟩ rfl (Nat.le_of_ble_eq_true rfl) ?_
      refine zg_st (pc' := 62) (L' := [some (.inr 0), some (.inl x1), none, some (.inl x3), some (.inl v4), some (.inl v5)]) (S' := [.inl (f_X5_now v5 N), .inl v4]) (M' := N) rfl rfl rfl rfl ?_
      refine zg_ifz (tgt := 69) dX5_punch_62 rfl rfl (fun c62 => ?_) (fun c62 => ?_)
      · refine zg_st (pc' := 69) (L' := [some (.inr 0), some (.inl x1), none, some (.inl x3), some (.inl v4), some (.inl v5)]) (S' := [.inl v4]) (M' := N) rfl rfl rfl rfl ?_
        refine zg_iconst (v := 1) dX5_punch_69 rfl ?_
        refine zg_iadd dX5_punch_70 ?_
        refine zg_istore dX5_punch_71 (by decide) ?_
        refine zg_st (pc' := 73) (L' := [some (.inr 0), some (.inl x1), none, some (.inl x3), some (.inl (v4 + 1)), some (.inl v5)]) (S' := []) (M' := N) rfl rfl rfl rfl ?_
        refine zg_aload_n (x := 0) dX5_punch_73 rfl ?_
        refine zg_getf (v := .inr 3) dX5_punch_74 zf_X5_20 rfl rfl rfl ?_
        refine zg_iload (x := v5) dX5_punch_77 rfl ?_
        refine zg_iconst (v := 0) dX5_punch_79 rfl ?_
        refine zg_iast dX5_punch_80 rfl (z_pv c51 hx1 hI) ?_
        refine zg_iinc (v := (v5 + 1)) dX5_punch_81 rfl (by decide) rfl ?_
        refine zg_st (pc' := 84) (L' := [some (.inr 0), some (.inl x1), none, some (.inl x3), some (.inl (v4 + 1)), some (.inl (v5 + 1))]) (S' := []) (M' := (mup N 3 v5.toNatClampNeg 0)) rfl rfl rfl rfl ?_
        refine zg_goto (tgt := 43) dX5_punch_84 rfl ?_
        refine zg_st (pc' := 43) (L' := [some (.inr 0), some (.inl x1), none, some (.inl x3), some (.inl (v4 + 1)), some (.inl (v5 + 1))]) (S' := []) (M' := (mup N 3 v5.toNatClampNeg 0)) rfl rfl rfl rfl ?_
        refine zg_drop (L' := [some (.inr 0), some (.inl x1), none, some (.inl x3), some (.inl (v4 + 1)), some (.inl (v5 + 1))]) ⟨rfl, rfl, rfl, rfl, rfl, trivial⟩ ?_
        exact ih (v4 + 1) (v5 + 1) (mup N 3 v5.toNatClampNeg 0) (z_ps c51 (z_pC hx1) hI) (z_upe c51 (z_pC hx1) hm)
      · refine zg_st (pc' := 65) (L' := [some (.inr 0), some (.inl x1), none, some (.inl x3), some (.inl v4), some (.inl v5)]) (S' := [.inl v4]) (M' := N) rfl rfl rfl rfl ?_
        refine zg_iconst (v := 0) dX5_punch_65 rfl ?_
        refine zg_goto (tgt := 70) dX5_punch_66 rfl ?_
        refine zg_st (pc' := 70) (L' := [some (.inr 0), some (.inl x1), none, some (.inl x3), some (.inl v4), some (.inl v5)]) (S' := [.inl 0, .inl v4]) (M' := N) rfl rfl rfl rfl ?_
        refine zg_iadd dX5_punch_70 ?_
        refine zg_istore dX5_punch_71 (by decide) ?_
        refine zg_st (pc' := 73) (L' := [some (.inr 0), some (.inl x1), none, some (.inl x3), some (.inl (v4 + 0)), some (.inl v5)]) (S' := []) (M' := N) rfl rfl rfl rfl ?_
        refine zg_aload_n (x := 0) dX5_punch_73 rfl ?_
        refine zg_getf (v := .inr 3) dX5_punch_74 zf_X5_20 rfl rfl rfl ?_
        refine zg_iload (x := v5) dX5_punch_77 rfl ?_
        refine zg_iconst (v := 0) dX5_punch_79 rfl ?_
        refine zg_iast dX5_punch_80 rfl (z_pv c51 hx1 hI) ?_
        refine zg_iinc (v := (v5 + 1)) dX5_punch_81 rfl (by decide) rfl ?_
        refine zg_st (pc' := 84) (L' := [some (.inr 0), some (.inl x1), none, some (.inl x3), some (.inl (v4 + 0)), some (.inl (v5 + 1))]) (S' := []) (M' := (mup N 3 v5.toNatClampNeg 0)) rfl rfl rfl rfl ?_
        refine zg_goto (tgt := 43) dX5_punch_84 rfl ?_
        refine zg_st (pc' := 43) (L' := [some (.inr 0), some (.inl x1), none, some (.inl x3), some (.inl (v4 + 0)), some (.inl (v5 + 1))]) (S' := []) (M' := (mup N 3 v5.toNatClampNeg 0)) rfl rfl rfl rfl ?_
        refine zg_drop (L' := [some (.inr 0), some (.inl x1), none, some (.inl x3), some (.inl (v4 + 0)), some (.inl (v5 + 1))]) ⟨rfl, rfl, rfl, rfl, rfl, trivial⟩ ?_
        exact ih (v4 + 0) (v5 + 1) (mup N 3 v5.toNatClampNeg 0) (z_ps c51 (z_pC hx1) hI) (z_upe c51 (z_pC hx1) hm)
def f_X5_punch (p1 : Int32) (p2 : Int32) (p3 : Int32) (M : Mem) : (Int32 × Mem) :=
  if (f_X5_isBlock p1 p2) then if (f_X5_in p3 p2 11) then zlet (l_X5_punch_43 p1 p3 (((((12 * p1) + p3) : Int32).toInt + 1 - (((12 * p1) + p2) : Int32).toInt).toNat + 1) 0 ((12 * p1) + p2) (mup M 0 0 0)) (fun s1 =>
      (s1.1, s1.2.2))
    else (0, (mup M 0 0 1))
  else (0, (mup M 0 0 1))
set_option maxRecDepth 100000 in
set_option maxHeartbeats 4000000 in
theorem k_X5_punch (q : ZQ) (p1 : Int32) (p2 : Int32) (p3 : Int32) (M : Mem) : Zc (zgM q) mX5_punch 0 0 [.inr 0, .inl p1, .inl p2, .inl p3] M (wIM (f_X5_punch p1 p2 p3 M)) := by
  refine Zc.of (by decide) zi_X5_punch.1 (Nat.le_of_ble_eq_true rfl) rfl ?_
  show Zg _ _ _ _ _ _ (zlet (f_X5_punch p1 p2 p3 M) wIM) _ _ _ _
  unfold f_X5_punch
  refine zg_aload_n (x := 0) dX5_punch_0 rfl ?_
  refine zg_iload_n (x := p1) dX5_punch_1 rfl ?_
  refine zg_iload_n (x := p2) dX5_punch_2 rfl ?_
  refine zg_cS1 (As := [.inl p1, .inl p2]) (S := [.inr 0]) (v := bI ((f_X5_isBlock p1 p2))) dX5_punch_3 zk_X5_70 (k_X5_isBlock q p1 p2 M) rfl ⟨by decide, by decide⟩ ⟨by decide, by decide⟩ rfl (Nat.le_of_ble_eq_true rfl) ?_
  refine zg_st (pc' := 6) (L' := [some (.inr 0), some (.inl p1), some (.inl p2), some (.inl p3), none, none]) (S' := [.inl (bI ((f_X5_isBlock p1 p2))), .inr 0]) (M' := M) rfl rfl rfl rfl ?_
  refine zg_ifbe (tgt := 23) dX5_punch_6 rfl (fun c6 => ?_) (fun c6 => ?_)
  · refine zg_st (pc' := 9) (L' := [some (.inr 0), some (.inl p1), some (.inl p2), some (.inl p3), none, none]) (S' := [.inr 0]) (M' := M) rfl rfl rfl rfl ?_
    refine zg_iload_n (x := p3) dX5_punch_9 rfl ?_
    refine zg_iload_n (x := p2) dX5_punch_10 rfl ?_
    refine zg_bipush (v := 11) dX5_punch_11 rfl ?_
    refine zg_cS1 (As := [.inl p3, .inl p2, .inl 11]) (S := [.inr 0]) (v := bI ((f_X5_in p3 p2 11))) dX5_punch_13 zk_X5_66 (k_X5_in q p3 p2 11 M) rfl ⟨by decide, by decide⟩ ⟨by decide, by decide⟩ rfl (Nat.le_of_ble_eq_true rfl) ?_
    refine zg_st (pc' := 16) (L' := [some (.inr 0), some (.inl p1), some (.inl p2), some (.inl p3), none, none]) (S' := [.inl (bI ((f_X5_in p3 p2 11))), .inr 0]) (M' := M) rfl rfl rfl rfl ?_
    refine zg_ifbe (tgt := 23) dX5_punch_16 rfl (fun c16 => ?_) (fun c16 => ?_)
    · refine zg_st (pc' := 19) (L' := [some (.inr 0), some (.inl p1), some (.inl p2), some (.inl p3), none, none]) (S' := [.inr 0]) (M' := M) rfl rfl rfl rfl ?_
      refine zg_iconst (v := 0) dX5_punch_19 rfl ?_
      refine zg_goto (tgt := 24) dX5_punch_20 rfl ?_
      refine zg_st (pc' := 24) (L' := [some (.inr 0), some (.inl p1), some (.inl p2), some (.inl p3), none, none]) (S' := [.inl 0, .inr 0]) (M' := M) rfl rfl rfl rfl ?_
      refine zg_cV1 (As := [.inl 0]) (S := []) (v := 0) (N0 := (mup M 0 0 0)) dX5_punch_24 zk_X5_74 (k_X5_refused q 0 M) rfl rfl ⟨by decide, by decide⟩ ⟨by decide, by decide⟩ rfl (Nat.le_of_ble_eq_true rfl) ?_
      refine zg_st (pc' := 27) (L' := [some (.inr 0), some (.inl p1), some (.inl p2), some (.inl p3), none, none]) (S' := [.inl 0]) (M' := (mup M 0 0 0)) rfl rfl rfl rfl ?_
      refine zg_jt (tgt := 32) dX5_punch_27 rfl (show (0 : Int32) = 0 from by decide) ?_
      refine zg_st (pc' := 32) (L' := [some (.inr 0), some (.inl p1), some (.inl p2), some (.inl p3), none, none]) (S' := []) (M' := (mup M 0 0 0)) rfl rfl rfl rfl ?_
      refine zg_iconst (v := 0) dX5_punch_32 rfl ?_
      refine zg_istore dX5_punch_33 (by decide) ?_
      refine zg_st (pc' := 35) (L' := [some (.inr 0), some (.inl p1), some (.inl p2), some (.inl p3), some (.inl 0), none]) (S' := []) (M' := (mup M 0 0 0)) rfl rfl rfl rfl ?_
      refine zg_bipush (v := 12) dX5_punch_35 rfl ?_
      refine zg_iload_n (x := p1) dX5_punch_37 rfl ?_
      refine zg_imul dX5_punch_38 ?_
      refine zg_iload_n (x := p2) dX5_punch_39 rfl ?_
      refine zg_iadd dX5_punch_40 ?_
      refine zg_istore dX5_punch_41 (by decide) ?_
      refine zg_st (pc' := 43) (L' := [some (.inr 0), some (.inl p1), some (.inl p2), some (.inl p3), some (.inl 0), some (.inl ((12 * p1) + p2))]) (S' := []) (M' := (mup M 0 0 0)) rfl rfl rfl rfl ?_
      refine zg_asc ?_
      refine zg_drop (L' := [some (.inr 0), some (.inl p1), none, some (.inl p3), some (.inl 0), some (.inl ((12 * p1) + p2))]) ⟨rfl, rfl, rfl, rfl, rfl, trivial⟩ ?_
      refine kl_X5_punch_43 q p1 p3  (z_punch c6 c16) (fun s1 hI_s1 => ?_) (((((12 * p1) + p3) : Int32).toInt + 1 - (((12 * p1) + p2) : Int32).toInt).toNat + 1) 0 ((12 * p1) + p2) (mup M 0 0 0) (z_pi c6) (Nat.lt_succ_self _)
      try dsimp only [Sum.elim_inr]
      refine zg_st (pc' := 87) (L' := [some (.inr 0), some (.inl p1), none, some (.inl p3), some (.inl s1.1), some (.inl s1.2.1)]) (S' := []) (M' := s1.2.2) rfl rfl rfl rfl ?_
      refine zg_iload (x := s1.1) dX5_punch_87 rfl ?_
      exact zg_iret dX5_punch_89 rfl rfl ⟨by decide, by decide⟩ rfl
    · refine zg_st (pc' := 23) (L' := [some (.inr 0), some (.inl p1), some (.inl p2), some (.inl p3), none, none]) (S' := [.inr 0]) (M' := M) rfl rfl rfl rfl ?_
      refine zg_iconst (v := 1) dX5_punch_23 rfl ?_
      refine zg_cV1 (As := [.inl 1]) (S := []) (v := 1) (N0 := (mup M 0 0 1)) dX5_punch_24 zk_X5_74 (k_X5_refused q 1 M) rfl rfl ⟨by decide, by decide⟩ ⟨by decide, by decide⟩ rfl (Nat.le_of_ble_eq_true rfl) ?_
      refine zg_st (pc' := 27) (L' := [some (.inr 0), some (.inl p1), some (.inl p2), some (.inl p3), none, none]) (S' := [.inl 1]) (M' := (mup M 0 0 1)) rfl rfl rfl rfl ?_
      refine zg_jf (tgt := 32) dX5_punch_27 rfl (show ¬ ((1 : Int32) = 0) from by decide) ?_
      refine zg_st (pc' := 30) (L' := [some (.inr 0), some (.inl p1), some (.inl p2), some (.inl p3), none, none]) (S' := []) (M' := (mup M 0 0 1)) rfl rfl rfl rfl ?_
      refine zg_iconst (v := 0) dX5_punch_30 rfl ?_
      exact zg_iret dX5_punch_31 rfl rfl ⟨by decide, by decide⟩ rfl
  · refine zg_st (pc' := 23) (L' := [some (.inr 0), some (.inl p1), some (.inl p2), some (.inl p3), none, none]) (S' := [.inr 0]) (M' := M) rfl rfl rfl rfl ?_
    refine zg_iconst (v := 1) dX5_punch_23 rfl ?_
    refine zg_cV1 (As := [.inl 1]) (S := []) (v := 1) (N0 := (mup M 0 0 1)) dX5_punch_24 zk_X5_74 (k_X5_refused q 1 M) rfl rfl ⟨by decide, by decide⟩ ⟨by decide, by decide⟩ rfl (Nat.le_of_ble_eq_true rfl) ?_
    refine zg_st (pc' := 27) (L' := [some (.inr 0), some (.inl p1), some (.inl p2), some (.inl p3), none, none]) (S' := [.inl 1]) (M' := (mup M 0 0 1)) rfl rfl rfl rfl ?_
    refine zg_jf (tgt := 32) dX5_punch_27 rfl (show ¬ ((1 : Int32) = 0) from by decide) ?_
    refine zg_st (pc' := 30) (L' := [some (.inr 0), some (.inl p1), some (.inl p2), some (.inl p3), none, none]) (S' := []) (M' := (mup M 0 0 1)) rfl rfl rfl rfl ?_
    refine zg_iconst (v := 0) dX5_punch_30 rfl ?_
    exact zg_iret dX5_punch_31 rfl rfl ⟨by decide, by decide⟩ rfl
theorem dX5_setCopies_0 : decode cX5_setCopies 0 = .ok (.aload_n 0, 1) := by decide +kernel
theorem dX5_setCopies_1 : decode cX5_setCopies 1 = .ok (.iload_n 1, 1) := by decide +kernel
theorem dX5_setCopies_2 : decode cX5_setCopies 2 = .ok (.iconst 0, 1) := by decide +kernel
theorem dX5_setCopies_3 : decode cX5_setCopies 3 = .ok (.iconst 3, 1) := by decide +kernel
theorem dX5_setCopies_4 : decode cX5_setCopies 4 = .ok (.invokestatic 66, 3) := by decide +kernel
theorem dX5_setCopies_7 : decode cX5_setCopies 7 = .ok (.ifCond .eq 16, 3) := by decide +kernel
theorem dX5_setCopies_10 : decode cX5_setCopies 10 = .ok (.iload_n 2, 1) := by decide +kernel
theorem dX5_setCopies_11 : decode cX5_setCopies 11 = .ok (.iconst 1, 1) := by decide +kernel
theorem dX5_setCopies_12 : decode cX5_setCopies 12 = .ok (.iconst 2, 1) := by decide +kernel
theorem dX5_setCopies_13 : decode cX5_setCopies 13 = .ok (.invokestatic 66, 3) := by decide +kernel
theorem dX5_setCopies_16 : decode cX5_setCopies 16 = .ok (.ifCond .eq 7, 3) := by decide +kernel
theorem dX5_setCopies_19 : decode cX5_setCopies 19 = .ok (.iconst 0, 1) := by decide +kernel
theorem dX5_setCopies_20 : decode cX5_setCopies 20 = .ok (.goto 4, 3) := by decide +kernel
theorem dX5_setCopies_23 : decode cX5_setCopies 23 = .ok (.iconst 1, 1) := by decide +kernel
theorem dX5_setCopies_24 : decode cX5_setCopies 24 = .ok (.invokevirtual 74, 3) := by decide +kernel
theorem dX5_setCopies_27 : decode cX5_setCopies 27 = .ok (.ifCond .eq 5, 3) := by decide +kernel
theorem dX5_setCopies_30 : decode cX5_setCopies 30 = .ok (.iconst 0, 1) := by decide +kernel
theorem dX5_setCopies_31 : decode cX5_setCopies 31 = .ok (.ireturn, 1) := by decide +kernel
theorem dX5_setCopies_32 : decode cX5_setCopies 32 = .ok (.aload_n 0, 1) := by decide +kernel
theorem dX5_setCopies_33 : decode cX5_setCopies 33 = .ok (.getfield 13, 3) := by decide +kernel
theorem dX5_setCopies_36 : decode cX5_setCopies 36 = .ok (.iload_n 1, 1) := by decide +kernel
theorem dX5_setCopies_37 : decode cX5_setCopies 37 = .ok (.iaload, 1) := by decide +kernel
theorem dX5_setCopies_38 : decode cX5_setCopies 38 = .ok (.istore_n 3, 1) := by decide +kernel
theorem dX5_setCopies_39 : decode cX5_setCopies 39 = .ok (.aload_n 0, 1) := by decide +kernel
theorem dX5_setCopies_40 : decode cX5_setCopies 40 = .ok (.getfield 13, 3) := by decide +kernel
theorem dX5_setCopies_43 : decode cX5_setCopies 43 = .ok (.iload_n 1, 1) := by decide +kernel
theorem dX5_setCopies_44 : decode cX5_setCopies 44 = .ok (.iload_n 2, 1) := by decide +kernel
theorem dX5_setCopies_45 : decode cX5_setCopies 45 = .ok (.iastore, 1) := by decide +kernel
theorem dX5_setCopies_46 : decode cX5_setCopies 46 = .ok (.iload_n 3, 1) := by decide +kernel
theorem dX5_setCopies_47 : decode cX5_setCopies 47 = .ok (.ireturn, 1) := by decide +kernel
def f_X5_setCopies (p1 : Int32) (p2 : Int32) (M : Mem) : (Int32 × Mem) :=
  if (f_X5_in p1 0 3) then if (f_X5_in p2 1 2) then (((mup M 0 0 0) 1 p1.toNatClampNeg), (mup (mup M 0 0 0) 1 p1.toNatClampNeg p2))
    else (0, (mup M 0 0 1))
  else (0, (mup M 0 0 1))
set_option maxRecDepth 100000 in
set_option maxHeartbeats 4000000 in
theorem k_X5_setCopies (q : ZQ) (p1 : Int32) (p2 : Int32) (M : Mem) : Zc (zgM q) mX5_setCopies 0 0 [.inr 0, .inl p1, .inl p2] M (wIM (f_X5_setCopies p1 p2 M)) := by
  refine Zc.of (by decide) zi_X5_setCopies.1 (Nat.le_of_ble_eq_true rfl) rfl ?_
  show Zg _ _ _ _ _ _ (zlet (f_X5_setCopies p1 p2 M) wIM) _ _ _ _
  unfold f_X5_setCopies
  refine zg_aload_n (x := 0) dX5_setCopies_0 rfl ?_
  refine zg_iload_n (x := p1) dX5_setCopies_1 rfl ?_
  refine zg_iconst (v := 0) dX5_setCopies_2 rfl ?_
  refine zg_iconst (v := 3) dX5_setCopies_3 rfl ?_
  refine zg_cS1 (As := [.inl p1, .inl 0, .inl 3]) (S := [.inr 0]) (v := bI ((f_X5_in p1 0 3))) dX5_setCopies_4 zk_X5_66 (k_X5_in q p1 0 3 M) rfl ⟨by decide, by decide⟩ ⟨by decide, by decide⟩ rfl (Nat.le_of_ble_eq_true rfl) ?_
  refine zg_st (pc' := 7) (L' := [some (.inr 0), some (.inl p1), some (.inl p2), none]) (S' := [.inl (bI ((f_X5_in p1 0 3))), .inr 0]) (M' := M) rfl rfl rfl rfl ?_
  refine zg_ifbe (tgt := 23) dX5_setCopies_7 rfl (fun c7 => ?_) (fun c7 => ?_)
  · refine zg_st (pc' := 10) (L' := [some (.inr 0), some (.inl p1), some (.inl p2), none]) (S' := [.inr 0]) (M' := M) rfl rfl rfl rfl ?_
    refine zg_iload_n (x := p2) dX5_setCopies_10 rfl ?_
    refine zg_iconst (v := 1) dX5_setCopies_11 rfl ?_
    refine zg_iconst (v := 2) dX5_setCopies_12 rfl ?_
    refine zg_cS1 (As := [.inl p2, .inl 1, .inl 2]) (S := [.inr 0]) (v := bI ((f_X5_in p2 1 2))) dX5_setCopies_13 zk_X5_66 (k_X5_in q p2 1 2 M) rfl ⟨by decide, by decide⟩ ⟨by decide, by decide⟩ rfl (Nat.le_of_ble_eq_true rfl) ?_
    refine zg_st (pc' := 16) (L' := [some (.inr 0), some (.inl p1), some (.inl p2), none]) (S' := [.inl (bI ((f_X5_in p2 1 2))), .inr 0]) (M' := M) rfl rfl rfl rfl ?_
    refine zg_ifbe (tgt := 23) dX5_setCopies_16 rfl (fun c16 => ?_) (fun c16 => ?_)
    · refine zg_st (pc' := 19) (L' := [some (.inr 0), some (.inl p1), some (.inl p2), none]) (S' := [.inr 0]) (M' := M) rfl rfl rfl rfl ?_
      refine zg_iconst (v := 0) dX5_setCopies_19 rfl ?_
      refine zg_goto (tgt := 24) dX5_setCopies_20 rfl ?_
      refine zg_st (pc' := 24) (L' := [some (.inr 0), some (.inl p1), some (.inl p2), none]) (S' := [.inl 0, .inr 0]) (M' := M) rfl rfl rfl rfl ?_
      refine zg_cV1 (As := [.inl 0]) (S := []) (v := 0) (N0 := (mup M 0 0 0)) dX5_setCopies_24 zk_X5_74 (k_X5_refused q 0 M) rfl rfl ⟨by decide, by decide⟩ ⟨by decide, by decide⟩ rfl (Nat.le_of_ble_eq_true rfl) ?_
      refine zg_st (pc' := 27) (L' := [some (.inr 0), some (.inl p1), some (.inl p2), none]) (S' := [.inl 0]) (M' := (mup M 0 0 0)) rfl rfl rfl rfl ?_
      refine zg_jt (tgt := 32) dX5_setCopies_27 rfl (show (0 : Int32) = 0 from by decide) ?_
      refine zg_st (pc' := 32) (L' := [some (.inr 0), some (.inl p1), some (.inl p2), none]) (S' := []) (M' := (mup M 0 0 0)) rfl rfl rfl rfl ?_
      refine zg_aload_n (x := 0) dX5_setCopies_32 rfl ?_
      refine zg_getf (v := .inr 1) dX5_setCopies_33 zf_X5_13 rfl rfl rfl ?_
      refine zg_iload_n (x := p1) dX5_setCopies_36 rfl ?_
      refine zg_iald dX5_setCopies_37 rfl (z_f4 c7) ?_
      refine zg_istore_n dX5_setCopies_38 (by decide) ?_
      refine zg_st (pc' := 39) (L' := [some (.inr 0), some (.inl p1), some (.inl p2), some (.inl ((mup M 0 0 0) 1 p1.toNatClampNeg))]) (S' := []) (M' := (mup M 0 0 0)) rfl rfl rfl rfl ?_
      refine zg_aload_n (x := 0) dX5_setCopies_39 rfl ?_
      refine zg_getf (v := .inr 1) dX5_setCopies_40 zf_X5_13 rfl rfl rfl ?_
      refine zg_iload_n (x := p1) dX5_setCopies_43 rfl ?_
      refine zg_iload_n (x := p2) dX5_setCopies_44 rfl ?_
      refine zg_iast dX5_setCopies_45 rfl (z_f4 c7) ?_
      refine zg_iload_n (x := ((mup M 0 0 0) 1 p1.toNatClampNeg)) dX5_setCopies_46 rfl ?_
      exact zg_iret dX5_setCopies_47 rfl rfl ⟨by decide, by decide⟩ rfl
    · refine zg_st (pc' := 23) (L' := [some (.inr 0), some (.inl p1), some (.inl p2), none]) (S' := [.inr 0]) (M' := M) rfl rfl rfl rfl ?_
      refine zg_iconst (v := 1) dX5_setCopies_23 rfl ?_
      refine zg_cV1 (As := [.inl 1]) (S := []) (v := 1) (N0 := (mup M 0 0 1)) dX5_setCopies_24 zk_X5_74 (k_X5_refused q 1 M) rfl rfl ⟨by decide, by decide⟩ ⟨by decide, by decide⟩ rfl (Nat.le_of_ble_eq_true rfl) ?_
      refine zg_st (pc' := 27) (L' := [some (.inr 0), some (.inl p1), some (.inl p2), none]) (S' := [.inl 1]) (M' := (mup M 0 0 1)) rfl rfl rfl rfl ?_
      refine zg_jf (tgt := 32) dX5_setCopies_27 rfl (show ¬ ((1 : Int32) = 0) from by decide) ?_
      refine zg_st (pc' := 30) (L' := [some (.inr 0), some (.inl p1), some (.inl p2), none]) (S' := []) (M' := (mup M 0 0 1)) rfl rfl rfl rfl ?_
      refine zg_iconst (v := 0) dX5_setCopies_30 rfl ?_
      exact zg_iret dX5_setCopies_31 rfl rfl ⟨by decide, by decide⟩ rfl
  · refine zg_st (pc' := 23) (L' := [some (.inr 0), some (.inl p1), some (.inl p2), none]) (S' := [.inr 0]) (M' := M) rfl rfl rfl rfl ?_
    refine zg_iconst (v := 1) dX5_setCopies_23 rfl ?_
    refine zg_cV1 (As := [.inl 1]) (S := []) (v := 1) (N0 := (mup M 0 0 1)) dX5_setCopies_24 zk_X5_74 (k_X5_refused q 1 M) rfl rfl ⟨by decide, by decide⟩ ⟨by decide, by decide⟩ rfl (Nat.le_of_ble_eq_true rfl) ?_
    refine zg_st (pc' := 27) (L' := [some (.inr 0), some (.inl p1), some (.inl p2), none]) (S' := [.inl 1]) (M' := (mup M 0 0 1)) rfl rfl rfl rfl ?_
    refine zg_jf (tgt := 32) dX5_setCopies_27 rfl (show ¬ ((1 : Int32) = 0) from by decide) ?_
    refine zg_st (pc' := 30) (L' := [some (.inr 0), some (.inl p1), some (.inl p2), none]) (S' := []) (M' := (mup M 0 0 1)) rfl rfl rfl rfl ?_
    refine zg_iconst (v := 0) dX5_setCopies_30 rfl ?_
    exact zg_iret dX5_setCopies_31 rfl rfl ⟨by decide, by decide⟩ rfl
theorem dX5_isReadable_0 : decode cX5_isReadable 0 = .ok (.aload_n 0, 1) := by decide +kernel
theorem dX5_isReadable_1 : decode cX5_isReadable 1 = .ok (.aload_n 0, 1) := by decide +kernel
theorem dX5_isReadable_2 : decode cX5_isReadable 2 = .ok (.getfield 23, 3) := by decide +kernel
theorem dX5_isReadable_5 : decode cX5_isReadable 5 = .ok (.iload_n 1, 1) := by decide +kernel
theorem dX5_isReadable_6 : decode cX5_isReadable 6 = .ok (.iaload, 1) := by decide +kernel
theorem dX5_isReadable_7 : decode cX5_isReadable 7 = .ok (.iconst 0, 1) := by decide +kernel
theorem dX5_isReadable_8 : decode cX5_isReadable 8 = .ok (.invokevirtual 82, 3) := by decide +kernel
theorem dX5_isReadable_11 : decode cX5_isReadable 11 = .ok (.ifCond .ne 45, 3) := by decide +kernel
theorem dX5_isReadable_14 : decode cX5_isReadable 14 = .ok (.aload_n 0, 1) := by decide +kernel
theorem dX5_isReadable_15 : decode cX5_isReadable 15 = .ok (.aload_n 0, 1) := by decide +kernel
theorem dX5_isReadable_16 : decode cX5_isReadable 16 = .ok (.getfield 23, 3) := by decide +kernel
theorem dX5_isReadable_19 : decode cX5_isReadable 19 = .ok (.iload_n 1, 1) := by decide +kernel
theorem dX5_isReadable_20 : decode cX5_isReadable 20 = .ok (.iaload, 1) := by decide +kernel
theorem dX5_isReadable_21 : decode cX5_isReadable 21 = .ok (.iconst 1, 1) := by decide +kernel
theorem dX5_isReadable_22 : decode cX5_isReadable 22 = .ok (.invokevirtual 82, 3) := by decide +kernel
theorem dX5_isReadable_25 : decode cX5_isReadable 25 = .ok (.ifCond .ne 31, 3) := by decide +kernel
theorem dX5_isReadable_28 : decode cX5_isReadable 28 = .ok (.aload_n 0, 1) := by decide +kernel
theorem dX5_isReadable_29 : decode cX5_isReadable 29 = .ok (.aload_n 0, 1) := by decide +kernel
theorem dX5_isReadable_30 : decode cX5_isReadable 30 = .ok (.getfield 26, 3) := by decide +kernel
theorem dX5_isReadable_33 : decode cX5_isReadable 33 = .ok (.iload_n 1, 1) := by decide +kernel
theorem dX5_isReadable_34 : decode cX5_isReadable 34 = .ok (.iaload, 1) := by decide +kernel
theorem dX5_isReadable_35 : decode cX5_isReadable 35 = .ok (.iconst 0, 1) := by decide +kernel
theorem dX5_isReadable_36 : decode cX5_isReadable 36 = .ok (.invokevirtual 82, 3) := by decide +kernel
theorem dX5_isReadable_39 : decode cX5_isReadable 39 = .ok (.ifCond .ne 17, 3) := by decide +kernel
theorem dX5_isReadable_42 : decode cX5_isReadable 42 = .ok (.aload_n 0, 1) := by decide +kernel
theorem dX5_isReadable_43 : decode cX5_isReadable 43 = .ok (.aload_n 0, 1) := by decide +kernel
theorem dX5_isReadable_44 : decode cX5_isReadable 44 = .ok (.getfield 26, 3) := by decide +kernel
theorem dX5_isReadable_47 : decode cX5_isReadable 47 = .ok (.iload_n 1, 1) := by decide +kernel
theorem dX5_isReadable_48 : decode cX5_isReadable 48 = .ok (.iaload, 1) := by decide +kernel
theorem dX5_isReadable_49 : decode cX5_isReadable 49 = .ok (.iconst 1, 1) := by decide +kernel
theorem dX5_isReadable_50 : decode cX5_isReadable 50 = .ok (.invokevirtual 82, 3) := by decide +kernel
theorem dX5_isReadable_53 : decode cX5_isReadable 53 = .ok (.ifCond .eq 7, 3) := by decide +kernel
theorem dX5_isReadable_56 : decode cX5_isReadable 56 = .ok (.iconst 1, 1) := by decide +kernel
theorem dX5_isReadable_57 : decode cX5_isReadable 57 = .ok (.goto 4, 3) := by decide +kernel
theorem dX5_isReadable_60 : decode cX5_isReadable 60 = .ok (.iconst 0, 1) := by decide +kernel
theorem dX5_isReadable_61 : decode cX5_isReadable 61 = .ok (.ireturn, 1) := by decide +kernel
def f_X5_isReadable (p1 : Int32) (M : Mem) : Bool :=
  if (f_X5_isGood (M 4 p1.toNatClampNeg) 0 M) then true
  else if (f_X5_isGood (M 4 p1.toNatClampNeg) 1 M) then true
  else if (f_X5_isGood (M 5 p1.toNatClampNeg) 0 M) then true
  else if (f_X5_isGood (M 5 p1.toNatClampNeg) 1 M) then true
  else false
set_option maxRecDepth 100000 in
set_option maxHeartbeats 4000000 in
theorem k_X5_isReadable (q : ZQ) (p1 : Int32) (M : Mem) (hp : vp_in p1 53 ∧ PlM M) : Zc (zgM q) mX5_isReadable 0 0 [.inr 0, .inl p1] M (wB M (f_X5_isReadable p1 M)) := by
  refine Zc.of (by decide) zi_X5_isReadable.1 (Nat.le_of_ble_eq_true rfl) rfl ?_
  show Zg _ _ _ _ _ _ (zlet (f_X5_isReadable p1 M) (wB M)) _ _ _ _
  unfold f_X5_isReadable
  refine zg_aload_n (x := 0) dX5_isReadable_0 rfl ?_
  refine zg_aload_n (x := 0) dX5_isReadable_1 rfl ?_
  refine zg_getf (v := .inr 4) dX5_isReadable_2 zf_X5_23 rfl rfl rfl ?_
  refine zg_iload_n (x := p1) dX5_isReadable_5 rfl ?_
  refine zg_iald dX5_isReadable_6 rfl hp.1 ?_
  refine zg_iconst (v := 0) dX5_isReadable_7 rfl ?_
  refine zg_cV1 (As := [.inl (M 4 p1.toNatClampNeg), .inl 0]) (S := []) (v := bI ((f_X5_isGood (M 4 p1.toNatClampNeg) 0 M))) dX5_isReadable_8 zk_X5_82 (k_X5_isGood q (M 4 p1.toNatClampNeg) 0 M (by first | exact zPl_at hp.2.1 hp.1 (by decide) | exact zPl_at hp.2.2 hp.1 (by decide))) rfl rfl ⟨by decide, by decide⟩ ⟨by decide, by decide⟩ rfl (Nat.le_of_ble_eq_true rfl) ?_
  refine zg_st (pc' := 11) (L' := [some (.inr 0), some (.inl p1)]) (S' := [.inl (bI ((f_X5_isGood (M 4 p1.toNatClampNeg) 0 M)))]) (M' := M) rfl rfl rfl rfl ?_
  refine zg_ifbn (tgt := 56) dX5_isReadable_11 rfl (fun c11 => ?_) (fun c11 => ?_)
  · refine zg_st (pc' := 56) (L' := [some (.inr 0), some (.inl p1)]) (S' := []) (M' := M) rfl rfl rfl rfl ?_
    refine zg_iconst (v := 1) dX5_isReadable_56 rfl ?_
    refine zg_goto (tgt := 61) dX5_isReadable_57 rfl ?_
    refine zg_st (pc' := 61) (L' := [some (.inr 0), some (.inl p1)]) (S' := [.inl 1]) (M' := M) rfl rfl rfl rfl ?_
    exact zg_iret dX5_isReadable_61 rfl rfl ⟨by decide, by decide⟩ rfl
  · refine zg_st (pc' := 14) (L' := [some (.inr 0), some (.inl p1)]) (S' := []) (M' := M) rfl rfl rfl rfl ?_
    refine zg_aload_n (x := 0) dX5_isReadable_14 rfl ?_
    refine zg_aload_n (x := 0) dX5_isReadable_15 rfl ?_
    refine zg_getf (v := .inr 4) dX5_isReadable_16 zf_X5_23 rfl rfl rfl ?_
    refine zg_iload_n (x := p1) dX5_isReadable_19 rfl ?_
    refine zg_iald dX5_isReadable_20 rfl hp.1 ?_
    refine zg_iconst (v := 1) dX5_isReadable_21 rfl ?_
    refine zg_cV1 (As := [.inl (M 4 p1.toNatClampNeg), .inl 1]) (S := []) (v := bI ((f_X5_isGood (M 4 p1.toNatClampNeg) 1 M))) dX5_isReadable_22 zk_X5_82 (k_X5_isGood q (M 4 p1.toNatClampNeg) 1 M (by first | exact zPl_at hp.2.1 hp.1 (by decide) | exact zPl_at hp.2.2 hp.1 (by decide))) rfl rfl ⟨by decide, by decide⟩ ⟨by decide, by decide⟩ rfl (Nat.le_of_ble_eq_true rfl) ?_
    refine zg_st (pc' := 25) (L' := [some (.inr 0), some (.inl p1)]) (S' := [.inl (bI ((f_X5_isGood (M 4 p1.toNatClampNeg) 1 M)))]) (M' := M) rfl rfl rfl rfl ?_
    refine zg_ifbn (tgt := 56) dX5_isReadable_25 rfl (fun c25 => ?_) (fun c25 => ?_)
    · refine zg_st (pc' := 56) (L' := [some (.inr 0), some (.inl p1)]) (S' := []) (M' := M) rfl rfl rfl rfl ?_
      refine zg_iconst (v := 1) dX5_isReadable_56 rfl ?_
      refine zg_goto (tgt := 61) dX5_isReadable_57 rfl ?_
      refine zg_st (pc' := 61) (L' := [some (.inr 0), some (.inl p1)]) (S' := [.inl 1]) (M' := M) rfl rfl rfl rfl ?_
      exact zg_iret dX5_isReadable_61 rfl rfl ⟨by decide, by decide⟩ rfl
    · refine zg_st (pc' := 28) (L' := [some (.inr 0), some (.inl p1)]) (S' := []) (M' := M) rfl rfl rfl rfl ?_
      refine zg_aload_n (x := 0) dX5_isReadable_28 rfl ?_
      refine zg_aload_n (x := 0) dX5_isReadable_29 rfl ?_
      refine zg_getf (v := .inr 5) dX5_isReadable_30 zf_X5_26 rfl rfl rfl ?_
      refine zg_iload_n (x := p1) dX5_isReadable_33 rfl ?_
      refine zg_iald dX5_isReadable_34 rfl hp.1 ?_
      refine zg_iconst (v := 0) dX5_isReadable_35 rfl ?_
      refine zg_cV1 (As := [.inl (M 5 p1.toNatClampNeg), .inl 0]) (S := []) (v := bI ((f_X5_isGood (M 5 p1.toNatClampNeg) 0 M))) dX5_isReadable_36 zk_X5_82 (k_X5_isGood q (M 5 p1.toNatClampNeg) 0 M (by first | exact zPl_at hp.2.1 hp.1 (by decide) | exact zPl_at hp.2.2 hp.1 (by decide))) rfl rfl ⟨by decide, by decide⟩ ⟨by decide, by decide⟩ rfl (Nat.le_of_ble_eq_true rfl) ?_
      refine zg_st (pc' := 39) (L' := [some (.inr 0), some (.inl p1)]) (S' := [.inl (bI ((f_X5_isGood (M 5 p1.toNatClampNeg) 0 M)))]) (M' := M) rfl rfl rfl rfl ?_
      refine zg_ifbn (tgt := 56) dX5_isReadable_39 rfl (fun c39 => ?_) (fun c39 => ?_)
      · refine zg_st (pc' := 56) (L' := [some (.inr 0), some (.inl p1)]) (S' := []) (M' := M) rfl rfl rfl rfl ?_
        refine zg_iconst (v := 1) dX5_isReadable_56 rfl ?_
        refine zg_goto (tgt := 61) dX5_isReadable_57 rfl ?_
        refine zg_st (pc' := 61) (L' := [some (.inr 0), some (.inl p1)]) (S' := [.inl 1]) (M' := M) rfl rfl rfl rfl ?_
        exact zg_iret dX5_isReadable_61 rfl rfl ⟨by decide, by decide⟩ rfl
      · refine zg_st (pc' := 42) (L' := [some (.inr 0), some (.inl p1)]) (S' := []) (M' := M) rfl rfl rfl rfl ?_
        refine zg_aload_n (x := 0) dX5_isReadable_42 rfl ?_
        refine zg_aload_n (x := 0) dX5_isReadable_43 rfl ?_
        refine zg_getf (v := .inr 5) dX5_isReadable_44 zf_X5_26 rfl rfl rfl ?_
        refine zg_iload_n (x := p1) dX5_isReadable_47 rfl ?_
        refine zg_iald dX5_isReadable_48 rfl hp.1 ?_
        refine zg_iconst (v := 1) dX5_isReadable_49 rfl ?_
        refine zg_cV1 (As := [.inl (M 5 p1.toNatClampNeg), .inl 1]) (S := []) (v := bI ((f_X5_isGood (M 5 p1.toNatClampNeg) 1 M))) dX5_isReadable_50 zk_X5_82 (k_X5_isGood q (M 5 p1.toNatClampNeg) 1 M (by first | exact zPl_at hp.2.1 hp.1 (by decide) | exact zPl_at hp.2.2 hp.1 (by decide))) rfl rfl ⟨by decide, by decide⟩ ⟨by decide, by decide⟩ rfl (Nat.le_of_ble_eq_true rfl) ?_
        refine zg_st (pc' := 53) (L' := [some (.inr 0), some (.inl p1)]) (S' := [.inl (bI ((f_X5_isGood (M 5 p1.toNatClampNeg) 1 M)))]) (M' := M) rfl rfl rfl rfl ?_
        refine zg_ifbe (tgt := 60) dX5_isReadable_53 rfl (fun c53 => ?_) (fun c53 => ?_)
        · refine zg_st (pc' := 56) (L' := [some (.inr 0), some (.inl p1)]) (S' := []) (M' := M) rfl rfl rfl rfl ?_
          refine zg_iconst (v := 1) dX5_isReadable_56 rfl ?_
          refine zg_goto (tgt := 61) dX5_isReadable_57 rfl ?_
          refine zg_st (pc' := 61) (L' := [some (.inr 0), some (.inl p1)]) (S' := [.inl 1]) (M' := M) rfl rfl rfl rfl ?_
          exact zg_iret dX5_isReadable_61 rfl rfl ⟨by decide, by decide⟩ rfl
        · refine zg_st (pc' := 60) (L' := [some (.inr 0), some (.inl p1)]) (S' := []) (M' := M) rfl rfl rfl rfl ?_
          refine zg_iconst (v := 0) dX5_isReadable_60 rfl ?_
          exact zg_iret dX5_isReadable_61 rfl rfl ⟨by decide, by decide⟩ rfl
theorem dX5_isCut_0 : decode cX5_isCut 0 = .ok (.aload_n 0, 1) := by decide +kernel
theorem dX5_isCut_1 : decode cX5_isCut 1 = .ok (.bipush 52, 2) := by decide +kernel
theorem dX5_isCut_3 : decode cX5_isCut 3 = .ok (.invokevirtual 92, 3) := by decide +kernel
theorem dX5_isCut_6 : decode cX5_isCut 6 = .ok (.ifCond .eq 16, 3) := by decide +kernel
theorem dX5_isCut_9 : decode cX5_isCut 9 = .ok (.aload_n 0, 1) := by decide +kernel
theorem dX5_isCut_10 : decode cX5_isCut 10 = .ok (.bipush 52, 2) := by decide +kernel
theorem dX5_isCut_12 : decode cX5_isCut 12 = .ok (.invokevirtual 95, 3) := by decide +kernel
theorem dX5_isCut_15 : decode cX5_isCut 15 = .ok (.ifCond .ne 7, 3) := by decide +kernel
theorem dX5_isCut_18 : decode cX5_isCut 18 = .ok (.iconst 1, 1) := by decide +kernel
theorem dX5_isCut_19 : decode cX5_isCut 19 = .ok (.goto 4, 3) := by decide +kernel
theorem dX5_isCut_22 : decode cX5_isCut 22 = .ok (.iconst 0, 1) := by decide +kernel
theorem dX5_isCut_23 : decode cX5_isCut 23 = .ok (.istore_n 3, 1) := by decide +kernel
theorem dX5_isCut_24 : decode cX5_isCut 24 = .ok (.aload_n 0, 1) := by decide +kernel
theorem dX5_isCut_25 : decode cX5_isCut 25 = .ok (.bipush 48, 2) := by decide +kernel
theorem dX5_isCut_27 : decode cX5_isCut 27 = .ok (.iload_n 1, 1) := by decide +kernel
theorem dX5_isCut_28 : decode cX5_isCut 28 = .ok (.iadd, 1) := by decide +kernel
theorem dX5_isCut_29 : decode cX5_isCut 29 = .ok (.invokevirtual 92, 3) := by decide +kernel
theorem dX5_isCut_32 : decode cX5_isCut 32 = .ok (.ifCond .eq 18, 3) := by decide +kernel
theorem dX5_isCut_35 : decode cX5_isCut 35 = .ok (.aload_n 0, 1) := by decide +kernel
theorem dX5_isCut_36 : decode cX5_isCut 36 = .ok (.bipush 48, 2) := by decide +kernel
theorem dX5_isCut_38 : decode cX5_isCut 38 = .ok (.iload_n 1, 1) := by decide +kernel
theorem dX5_isCut_39 : decode cX5_isCut 39 = .ok (.iadd, 1) := by decide +kernel
theorem dX5_isCut_40 : decode cX5_isCut 40 = .ok (.invokevirtual 95, 3) := by decide +kernel
theorem dX5_isCut_43 : decode cX5_isCut 43 = .ok (.ifCond .ne 7, 3) := by decide +kernel
theorem dX5_isCut_46 : decode cX5_isCut 46 = .ok (.iconst 1, 1) := by decide +kernel
theorem dX5_isCut_47 : decode cX5_isCut 47 = .ok (.goto 4, 3) := by decide +kernel
theorem dX5_isCut_50 : decode cX5_isCut 50 = .ok (.iconst 0, 1) := by decide +kernel
theorem dX5_isCut_51 : decode cX5_isCut 51 = .ok (.istore 4, 2) := by decide +kernel
theorem dX5_isCut_53 : decode cX5_isCut 53 = .ok (.iload_n 3, 1) := by decide +kernel
theorem dX5_isCut_54 : decode cX5_isCut 54 = .ok (.ifCond .ne 34, 3) := by decide +kernel
theorem dX5_isCut_57 : decode cX5_isCut 57 = .ok (.iload 4, 2) := by decide +kernel
theorem dX5_isCut_59 : decode cX5_isCut 59 = .ok (.ifCond .ne 29, 3) := by decide +kernel
theorem dX5_isCut_62 : decode cX5_isCut 62 = .ok (.aload_n 0, 1) := by decide +kernel
theorem dX5_isCut_63 : decode cX5_isCut 63 = .ok (.bipush 12, 2) := by decide +kernel
theorem dX5_isCut_65 : decode cX5_isCut 65 = .ok (.iload_n 1, 1) := by decide +kernel
theorem dX5_isCut_66 : decode cX5_isCut 66 = .ok (.imul, 1) := by decide +kernel
theorem dX5_isCut_67 : decode cX5_isCut 67 = .ok (.iload_n 2, 1) := by decide +kernel
theorem dX5_isCut_68 : decode cX5_isCut 68 = .ok (.iadd, 1) := by decide +kernel
theorem dX5_isCut_69 : decode cX5_isCut 69 = .ok (.invokevirtual 92, 3) := by decide +kernel
theorem dX5_isCut_72 : decode cX5_isCut 72 = .ok (.ifCond .eq 20, 3) := by decide +kernel
theorem dX5_isCut_75 : decode cX5_isCut 75 = .ok (.aload_n 0, 1) := by decide +kernel
theorem dX5_isCut_76 : decode cX5_isCut 76 = .ok (.bipush 12, 2) := by decide +kernel
theorem dX5_isCut_78 : decode cX5_isCut 78 = .ok (.iload_n 1, 1) := by decide +kernel
theorem dX5_isCut_79 : decode cX5_isCut 79 = .ok (.imul, 1) := by decide +kernel
theorem dX5_isCut_80 : decode cX5_isCut 80 = .ok (.iload_n 2, 1) := by decide +kernel
theorem dX5_isCut_81 : decode cX5_isCut 81 = .ok (.iadd, 1) := by decide +kernel
theorem dX5_isCut_82 : decode cX5_isCut 82 = .ok (.invokevirtual 95, 3) := by decide +kernel
theorem dX5_isCut_85 : decode cX5_isCut 85 = .ok (.ifCond .ne 7, 3) := by decide +kernel
theorem dX5_isCut_88 : decode cX5_isCut 88 = .ok (.iconst 1, 1) := by decide +kernel
theorem dX5_isCut_89 : decode cX5_isCut 89 = .ok (.goto 4, 3) := by decide +kernel
theorem dX5_isCut_92 : decode cX5_isCut 92 = .ok (.iconst 0, 1) := by decide +kernel
theorem dX5_isCut_93 : decode cX5_isCut 93 = .ok (.ireturn, 1) := by decide +kernel
def f_X5_isCut (p1 : Int32) (p2 : Int32) (M : Mem) : Bool :=
  zlet (if (f_X5_isThere 52 M) then if (f_X5_isReadable 52 M) then false
      else true
    else false) (fun (j1 : Bool) =>
  zlet (if (f_X5_isThere (48 + p1) M) then if (f_X5_isReadable (48 + p1) M) then false
        else true
      else false) (fun (j3 : Bool) =>
    if j1 then true
      else if j3 then true
      else if (f_X5_isThere ((12 * p1) + p2) M) then if (f_X5_isReadable ((12 * p1) + p2) M) then false
        else true
      else false))
set_option maxRecDepth 100000 in
set_option maxHeartbeats 4000000 in
theorem k_X5_isCut (q : ZQ) (p1 : Int32) (p2 : Int32) (M : Mem) (hp : ((0 ≤ p1.toInt ∧ p1.toInt < 4) ∧ 0 ≤ p2.toInt ∧ p2.toInt < 12) ∧ PlM M) : Zc (zgM q) mX5_isCut 0 0 [.inr 0, .inl p1, .inl p2] M (wB M (f_X5_isCut p1 p2 M)) := by
  refine Zc.of (by decide) zi_X5_isCut.1 (Nat.le_of_ble_eq_true rfl) rfl ?_
  show Zg _ _ _ _ _ _ (zlet (f_X5_isCut p1 p2 M) (wB M)) _ _ _ _
  unfold f_X5_isCut
  refine zg_aload_n (x := 0) dX5_isCut_0 rfl ?_
  refine zg_bipush (v := 52) dX5_isCut_1 rfl ?_
  refine zg_cV1 (As := [.inl 52]) (S := []) (v := bI ((f_X5_isThere 52 M))) dX5_isCut_3 zk_X5_92 (k_X5_isThere q 52 M (by first | exact z_52 | exact z_c53a hp.1.1 | exact z_c53b hp.1)) rfl rfl ⟨by decide, by decide⟩ ⟨by decide, by decide⟩ rfl (Nat.le_of_ble_eq_true rfl) ?_
  refine zg_st (pc' := 6) (L' := [some (.inr 0), some (.inl p1), some (.inl p2), none, none]) (S' := [.inl (bI ((f_X5_isThere 52 M)))]) (M' := M) rfl rfl rfl rfl ?_
  refine zg_join (pc' := 23) (Lf := fun (j1 : Bool) => [some (.inr 0), some (.inl p1), some (.inl p2), none, none]) (Sf := fun j1 => [.inl (bI j1)]) (Mf := fun j1 => M) (fun (j1 : Bool) => ?_) (fun J2 => ?_)
  · try dsimp only
    refine zg_istore_n dX5_isCut_23 (by decide) ?_
    refine zg_st (pc' := 24) (L' := [some (.inr 0), some (.inl p1), some (.inl p2), some (.inl (bI j1)), none]) (S' := []) (M' := M) rfl rfl rfl rfl ?_
    refine zg_aload_n (x := 0) dX5_isCut_24 rfl ?_
    refine zg_bipush (v := 48) dX5_isCut_25 rfl ?_
    refine zg_iload_n (x := p1) dX5_isCut_27 rfl ?_
    refine zg_iadd dX5_isCut_28 ?_
    refine zg_cV1 (As := [.inl (48 + p1)]) (S := []) (v := bI ((f_X5_isThere (48 + p1) M))) dX5_isCut_29 zk_X5_92 (k_X5_isThere q (48 + p1) M (by first | exact z_52 | exact z_c53a hp.1.1 | exact z_c53b hp.1)) rfl rfl ⟨by decide, by decide⟩ ⟨by decide, by decide⟩ rfl (Nat.le_of_ble_eq_true rfl) ?_
    refine zg_st (pc' := 32) (L' := [some (.inr 0), some (.inl p1), some (.inl p2), some (.inl (bI j1)), none]) (S' := [.inl (bI ((f_X5_isThere (48 + p1) M)))]) (M' := M) rfl rfl rfl rfl ?_
    refine zg_join (pc' := 51) (Lf := fun (j3 : Bool) => [some (.inr 0), some (.inl p1), some (.inl p2), some (.inl (bI j1)), none]) (Sf := fun j3 => [.inl (bI j3)]) (Mf := fun j3 => M) (fun (j3 : Bool) => ?_) (fun J4 => ?_)
    · try dsimp only
      refine zg_istore dX5_isCut_51 (by decide) ?_
      refine zg_st (pc' := 53) (L' := [some (.inr 0), some (.inl p1), some (.inl p2), some (.inl (bI j1)), some (.inl (bI j3))]) (S' := []) (M' := M) rfl rfl rfl rfl ?_
      refine zg_iload_n (x := bI j1) dX5_isCut_53 rfl ?_
      refine zg_ifbn (tgt := 88) dX5_isCut_54 rfl (fun c54 => ?_) (fun c54 => ?_)
      · refine zg_st (pc' := 88) (L' := [some (.inr 0), some (.inl p1), some (.inl p2), some (.inl (bI j1)), some (.inl (bI j3))]) (S' := []) (M' := M) rfl rfl rfl rfl ?_
        refine zg_iconst (v := 1) dX5_isCut_88 rfl ?_
        refine zg_goto (tgt := 93) dX5_isCut_89 rfl ?_
        refine zg_st (pc' := 93) (L' := [some (.inr 0), some (.inl p1), some (.inl p2), some (.inl (bI j1)), some (.inl (bI j3))]) (S' := [.inl 1]) (M' := M) rfl rfl rfl rfl ?_
        exact zg_iret dX5_isCut_93 rfl rfl ⟨by decide, by decide⟩ rfl
      · refine zg_st (pc' := 57) (L' := [some (.inr 0), some (.inl p1), some (.inl p2), some (.inl (bI j1)), some (.inl (bI j3))]) (S' := []) (M' := M) rfl rfl rfl rfl ?_
        refine zg_iload (x := bI j3) dX5_isCut_57 rfl ?_
        refine zg_ifbn (tgt := 88) dX5_isCut_59 rfl (fun c59 => ?_) (fun c59 => ?_)
        · refine zg_st (pc' := 88) (L' := [some (.inr 0), some (.inl p1), some (.inl p2), some (.inl (bI j1)), some (.inl (bI j3))]) (S' := []) (M' := M) rfl rfl rfl rfl ?_
          refine zg_iconst (v := 1) dX5_isCut_88 rfl ?_
          refine zg_goto (tgt := 93) dX5_isCut_89 rfl ?_
          refine zg_st (pc' := 93) (L' := [some (.inr 0), some (.inl p1), some (.inl p2), some (.inl (bI j1)), some (.inl (bI j3))]) (S' := [.inl 1]) (M' := M) rfl rfl rfl rfl ?_
          exact zg_iret dX5_isCut_93 rfl rfl ⟨by decide, by decide⟩ rfl
        · refine zg_st (pc' := 62) (L' := [some (.inr 0), some (.inl p1), some (.inl p2), some (.inl (bI j1)), some (.inl (bI j3))]) (S' := []) (M' := M) rfl rfl rfl rfl ?_
          refine zg_aload_n (x := 0) dX5_isCut_62 rfl ?_
          refine zg_bipush (v := 12) dX5_isCut_63 rfl ?_
          refine zg_iload_n (x := p1) dX5_isCut_65 rfl ?_
          refine zg_imul dX5_isCut_66 ?_
          refine zg_iload_n (x := p2) dX5_isCut_67 rfl ?_
          refine zg_iadd dX5_isCut_68 ?_
          refine zg_cV1 (As := [.inl ((12 * p1) + p2)]) (S := []) (v := bI ((f_X5_isThere ((12 * p1) + p2) M))) dX5_isCut_69 zk_X5_92 (k_X5_isThere q ((12 * p1) + p2) M (by first | exact z_52 | exact z_c53a hp.1.1 | exact z_c53b hp.1)) rfl rfl ⟨by decide, by decide⟩ ⟨by decide, by decide⟩ rfl (Nat.le_of_ble_eq_true rfl) ?_
          refine zg_st (pc' := 72) (L' := [some (.inr 0), some (.inl p1), some (.inl p2), some (.inl (bI j1)), some (.inl (bI j3))]) (S' := [.inl (bI ((f_X5_isThere ((12 * p1) + p2) M)))]) (M' := M) rfl rfl rfl rfl ?_
          refine zg_ifbe (tgt := 92) dX5_isCut_72 rfl (fun c72 => ?_) (fun c72 => ?_)
          · refine zg_st (pc' := 75) (L' := [some (.inr 0), some (.inl p1), some (.inl p2), some (.inl (bI j1)), some (.inl (bI j3))]) (S' := []) (M' := M) rfl rfl rfl rfl ?_
            refine zg_aload_n (x := 0) dX5_isCut_75 rfl ?_
            refine zg_bipush (v := 12) dX5_isCut_76 rfl ?_
            refine zg_iload_n (x := p1) dX5_isCut_78 rfl ?_
            refine zg_imul dX5_isCut_79 ?_
            refine zg_iload_n (x := p2) dX5_isCut_80 rfl ?_
            refine zg_iadd dX5_isCut_81 ?_
            refine zg_cV1 (As := [.inl ((12 * p1) + p2)]) (S := []) (v := bI ((f_X5_isReadable ((12 * p1) + p2) M))) dX5_isCut_82 zk_X5_95 (k_X5_isReadable q ((12 * p1) + p2) M (by first | exact ⟨z_52, hp.2⟩ | exact ⟨z_c53a hp.1.1, hp.2⟩ | exact ⟨z_c53b hp.1, hp.2⟩)) rfl rfl ⟨by decide, by decide⟩ ⟨by decide, by decide⟩ rfl (Nat.le_of_ble_eq_true rfl) ?_
            refine zg_st (pc' := 85) (L' := [some (.inr 0), some (.inl p1), some (.inl p2), some (.inl (bI j1)), some (.inl (bI j3))]) (S' := [.inl (bI ((f_X5_isReadable ((12 * p1) + p2) M)))]) (M' := M) rfl rfl rfl rfl ?_
            refine zg_ifbn (tgt := 92) dX5_isCut_85 rfl (fun c85 => ?_) (fun c85 => ?_)
            · refine zg_st (pc' := 92) (L' := [some (.inr 0), some (.inl p1), some (.inl p2), some (.inl (bI j1)), some (.inl (bI j3))]) (S' := []) (M' := M) rfl rfl rfl rfl ?_
              refine zg_iconst (v := 0) dX5_isCut_92 rfl ?_
              exact zg_iret dX5_isCut_93 rfl rfl ⟨by decide, by decide⟩ rfl
            · refine zg_st (pc' := 88) (L' := [some (.inr 0), some (.inl p1), some (.inl p2), some (.inl (bI j1)), some (.inl (bI j3))]) (S' := []) (M' := M) rfl rfl rfl rfl ?_
              refine zg_iconst (v := 1) dX5_isCut_88 rfl ?_
              refine zg_goto (tgt := 93) dX5_isCut_89 rfl ?_
              refine zg_st (pc' := 93) (L' := [some (.inr 0), some (.inl p1), some (.inl p2), some (.inl (bI j1)), some (.inl (bI j3))]) (S' := [.inl 1]) (M' := M) rfl rfl rfl rfl ?_
              exact zg_iret dX5_isCut_93 rfl rfl ⟨by decide, by decide⟩ rfl
          · refine zg_st (pc' := 92) (L' := [some (.inr 0), some (.inl p1), some (.inl p2), some (.inl (bI j1)), some (.inl (bI j3))]) (S' := []) (M' := M) rfl rfl rfl rfl ?_
            refine zg_iconst (v := 0) dX5_isCut_92 rfl ?_
            exact zg_iret dX5_isCut_93 rfl rfl ⟨by decide, by decide⟩ rfl
    · refine zg_ifbe (tgt := 50) dX5_isCut_32 rfl (fun c32 => ?_) (fun c32 => ?_)
      · refine zg_st (pc' := 35) (L' := [some (.inr 0), some (.inl p1), some (.inl p2), some (.inl (bI j1)), none]) (S' := []) (M' := M) rfl rfl rfl rfl ?_
        refine zg_aload_n (x := 0) dX5_isCut_35 rfl ?_
        refine zg_bipush (v := 48) dX5_isCut_36 rfl ?_
        refine zg_iload_n (x := p1) dX5_isCut_38 rfl ?_
        refine zg_iadd dX5_isCut_39 ?_
        refine zg_cV1 (As := [.inl (48 + p1)]) (S := []) (v := bI ((f_X5_isReadable (48 + p1) M))) dX5_isCut_40 zk_X5_95 (k_X5_isReadable q (48 + p1) M (by first | exact ⟨z_52, hp.2⟩ | exact ⟨z_c53a hp.1.1, hp.2⟩ | exact ⟨z_c53b hp.1, hp.2⟩)) rfl rfl ⟨by decide, by decide⟩ ⟨by decide, by decide⟩ rfl (Nat.le_of_ble_eq_true rfl) ?_
        refine zg_st (pc' := 43) (L' := [some (.inr 0), some (.inl p1), some (.inl p2), some (.inl (bI j1)), none]) (S' := [.inl (bI ((f_X5_isReadable (48 + p1) M)))]) (M' := M) rfl rfl rfl rfl ?_
        refine zg_ifbn (tgt := 50) dX5_isCut_43 rfl (fun c43 => ?_) (fun c43 => ?_)
        · refine zg_st (pc' := 50) (L' := [some (.inr 0), some (.inl p1), some (.inl p2), some (.inl (bI j1)), none]) (S' := []) (M' := M) rfl rfl rfl rfl ?_
          refine zg_iconst (v := 0) dX5_isCut_50 rfl ?_
          refine zg_drop (L' := [some (.inr 0), some (.inl p1), some (.inl p2), some (.inl (bI j1)), none]) ⟨rfl, rfl, rfl, rfl, trivial⟩ ?_
          exact J4 false
        · refine zg_st (pc' := 46) (L' := [some (.inr 0), some (.inl p1), some (.inl p2), some (.inl (bI j1)), none]) (S' := []) (M' := M) rfl rfl rfl rfl ?_
          refine zg_iconst (v := 1) dX5_isCut_46 rfl ?_
          refine zg_goto (tgt := 51) dX5_isCut_47 rfl ?_
          refine zg_st (pc' := 51) (L' := [some (.inr 0), some (.inl p1), some (.inl p2), some (.inl (bI j1)), none]) (S' := [.inl 1]) (M' := M) rfl rfl rfl rfl ?_
          refine zg_drop (L' := [some (.inr 0), some (.inl p1), some (.inl p2), some (.inl (bI j1)), none]) ⟨rfl, rfl, rfl, rfl, trivial⟩ ?_
          exact J4 true
      · refine zg_st (pc' := 50) (L' := [some (.inr 0), some (.inl p1), some (.inl p2), some (.inl (bI j1)), none]) (S' := []) (M' := M) rfl rfl rfl rfl ?_
        refine zg_iconst (v := 0) dX5_isCut_50 rfl ?_
        refine zg_drop (L' := [some (.inr 0), some (.inl p1), some (.inl p2), some (.inl (bI j1)), none]) ⟨rfl, rfl, rfl, rfl, trivial⟩ ?_
        exact J4 false
  · refine zg_ifbe (tgt := 22) dX5_isCut_6 rfl (fun c6 => ?_) (fun c6 => ?_)
    · refine zg_st (pc' := 9) (L' := [some (.inr 0), some (.inl p1), some (.inl p2), none, none]) (S' := []) (M' := M) rfl rfl rfl rfl ?_
      refine zg_aload_n (x := 0) dX5_isCut_9 rfl ?_
      refine zg_bipush (v := 52) dX5_isCut_10 rfl ?_
      refine zg_cV1 (As := [.inl 52]) (S := []) (v := bI ((f_X5_isReadable 52 M))) dX5_isCut_12 zk_X5_95 (k_X5_isReadable q 52 M (by first | exact ⟨z_52, hp.2⟩ | exact ⟨z_c53a hp.1.1, hp.2⟩ | exact ⟨z_c53b hp.1, hp.2⟩)) rfl rfl ⟨by decide, by decide⟩ ⟨by decide, by decide⟩ rfl (Nat.le_of_ble_eq_true rfl) ?_
      refine zg_st (pc' := 15) (L' := [some (.inr 0), some (.inl p1), some (.inl p2), none, none]) (S' := [.inl (bI ((f_X5_isReadable 52 M)))]) (M' := M) rfl rfl rfl rfl ?_
      refine zg_ifbn (tgt := 22) dX5_isCut_15 rfl (fun c15 => ?_) (fun c15 => ?_)
      · refine zg_st (pc' := 22) (L' := [some (.inr 0), some (.inl p1), some (.inl p2), none, none]) (S' := []) (M' := M) rfl rfl rfl rfl ?_
        refine zg_iconst (v := 0) dX5_isCut_22 rfl ?_
        refine zg_drop (L' := [some (.inr 0), some (.inl p1), some (.inl p2), none, none]) ⟨rfl, rfl, rfl, trivial⟩ ?_
        exact J2 false
      · refine zg_st (pc' := 18) (L' := [some (.inr 0), some (.inl p1), some (.inl p2), none, none]) (S' := []) (M' := M) rfl rfl rfl rfl ?_
        refine zg_iconst (v := 1) dX5_isCut_18 rfl ?_
        refine zg_goto (tgt := 23) dX5_isCut_19 rfl ?_
        refine zg_st (pc' := 23) (L' := [some (.inr 0), some (.inl p1), some (.inl p2), none, none]) (S' := [.inl 1]) (M' := M) rfl rfl rfl rfl ?_
        refine zg_drop (L' := [some (.inr 0), some (.inl p1), some (.inl p2), none, none]) ⟨rfl, rfl, rfl, trivial⟩ ?_
        exact J2 true
    · refine zg_st (pc' := 22) (L' := [some (.inr 0), some (.inl p1), some (.inl p2), none, none]) (S' := []) (M' := M) rfl rfl rfl rfl ?_
      refine zg_iconst (v := 0) dX5_isCut_22 rfl ?_
      refine zg_drop (L' := [some (.inr 0), some (.inl p1), some (.inl p2), none, none]) ⟨rfl, rfl, rfl, trivial⟩ ?_
      exact J2 false
theorem dX5_readOn_0 : decode cX5_readOn 0 = .ok (.iconst 0, 1) := by decide +kernel
theorem dX5_readOn_1 : decode cX5_readOn 1 = .ok (.istore_n 2, 1) := by decide +kernel
theorem dX5_readOn_2 : decode cX5_readOn 2 = .ok (.iconst 0, 1) := by decide +kernel
theorem dX5_readOn_3 : decode cX5_readOn 3 = .ok (.istore_n 3, 1) := by decide +kernel
theorem dX5_readOn_4 : decode cX5_readOn 4 = .ok (.iload_n 3, 1) := by decide +kernel
theorem dX5_readOn_5 : decode cX5_readOn 5 = .ok (.iconst 4, 1) := by decide +kernel
theorem dX5_readOn_6 : decode cX5_readOn 6 = .ok (.if_icmp .ge 71, 3) := by decide +kernel
theorem dX5_readOn_9 : decode cX5_readOn 9 = .ok (.iload_n 2, 1) := by decide +kernel
theorem dX5_readOn_10 : decode cX5_readOn 10 = .ok (.ifCond .ne 67, 3) := by decide +kernel
theorem dX5_readOn_13 : decode cX5_readOn 13 = .ok (.iload_n 3, 1) := by decide +kernel
theorem dX5_readOn_14 : decode cX5_readOn 14 = .ok (.iconst 2, 1) := by decide +kernel
theorem dX5_readOn_15 : decode cX5_readOn 15 = .ok (.if_icmp .ge 12, 3) := by decide +kernel
theorem dX5_readOn_18 : decode cX5_readOn 18 = .ok (.aload_n 0, 1) := by decide +kernel
theorem dX5_readOn_19 : decode cX5_readOn 19 = .ok (.getfield 23, 3) := by decide +kernel
theorem dX5_readOn_22 : decode cX5_readOn 22 = .ok (.iload_n 1, 1) := by decide +kernel
theorem dX5_readOn_23 : decode cX5_readOn 23 = .ok (.iaload, 1) := by decide +kernel
theorem dX5_readOn_24 : decode cX5_readOn 24 = .ok (.goto 9, 3) := by decide +kernel
theorem dX5_readOn_27 : decode cX5_readOn 27 = .ok (.aload_n 0, 1) := by decide +kernel
theorem dX5_readOn_28 : decode cX5_readOn 28 = .ok (.getfield 26, 3) := by decide +kernel
theorem dX5_readOn_31 : decode cX5_readOn 31 = .ok (.iload_n 1, 1) := by decide +kernel
theorem dX5_readOn_32 : decode cX5_readOn 32 = .ok (.iaload, 1) := by decide +kernel
theorem dX5_readOn_33 : decode cX5_readOn 33 = .ok (.istore 4, 2) := by decide +kernel
theorem dX5_readOn_35 : decode cX5_readOn 35 = .ok (.aload_n 0, 1) := by decide +kernel
theorem dX5_readOn_36 : decode cX5_readOn 36 = .ok (.iload 4, 2) := by decide +kernel
theorem dX5_readOn_38 : decode cX5_readOn 38 = .ok (.iload_n 3, 1) := by decide +kernel
theorem dX5_readOn_39 : decode cX5_readOn 39 = .ok (.iconst 2, 1) := by decide +kernel
theorem dX5_readOn_40 : decode cX5_readOn 40 = .ok (.irem, 1) := by decide +kernel
theorem dX5_readOn_41 : decode cX5_readOn 41 = .ok (.invokevirtual 82, 3) := by decide +kernel
theorem dX5_readOn_44 : decode cX5_readOn 44 = .ok (.istore_n 2, 1) := by decide +kernel
theorem dX5_readOn_45 : decode cX5_readOn 45 = .ok (.aload_n 0, 1) := by decide +kernel
theorem dX5_readOn_46 : decode cX5_readOn 46 = .ok (.dup, 1) := by decide +kernel
theorem dX5_readOn_47 : decode cX5_readOn 47 = .ok (.getfield 85, 3) := by decide +kernel
theorem dX5_readOn_50 : decode cX5_readOn 50 = .ok (.iload_n 2, 1) := by decide +kernel
theorem dX5_readOn_51 : decode cX5_readOn 51 = .ok (.ifCond .eq 7, 3) := by decide +kernel
theorem dX5_readOn_54 : decode cX5_readOn 54 = .ok (.iconst 0, 1) := by decide +kernel
theorem dX5_readOn_55 : decode cX5_readOn 55 = .ok (.goto 12, 3) := by decide +kernel
theorem dX5_readOn_58 : decode cX5_readOn 58 = .ok (.aload_n 0, 1) := by decide +kernel
theorem dX5_readOn_59 : decode cX5_readOn 59 = .ok (.iload 4, 2) := by decide +kernel
theorem dX5_readOn_61 : decode cX5_readOn 61 = .ok (.iload_n 3, 1) := by decide +kernel
theorem dX5_readOn_62 : decode cX5_readOn 62 = .ok (.iconst 2, 1) := by decide +kernel
theorem dX5_readOn_63 : decode cX5_readOn 63 = .ok (.irem, 1) := by decide +kernel
theorem dX5_readOn_64 : decode cX5_readOn 64 = .ok (.invokevirtual 88, 3) := by decide +kernel
theorem dX5_readOn_67 : decode cX5_readOn 67 = .ok (.iadd, 1) := by decide +kernel
theorem dX5_readOn_68 : decode cX5_readOn 68 = .ok (.putfield 85, 3) := by decide +kernel
theorem dX5_readOn_71 : decode cX5_readOn 71 = .ok (.iinc 3 1, 3) := by decide +kernel
theorem dX5_readOn_74 : decode cX5_readOn 74 = .ok (.goto (-70), 3) := by decide +kernel
theorem dX5_readOn_77 : decode cX5_readOn 77 = .ok (.return_, 1) := by decide +kernel
def b_X5_readOn_4 (x1 : Int32) (rec : Bool → Int32 → Mem → Bool × Int32 × Mem) (v2 : Bool) (v3 : Int32) (N : Mem) : Bool × Int32 × Mem :=
  if 4 ≤ v3 then (v2, v3, N)
  else if v2 then (v2, v3, N)
  else if 2 ≤ v3 then if (f_X5_isGood (N 5 x1.toNatClampNeg) (v3 - v3 / 2 * 2) N) then rec (f_X5_isGood (N 5 x1.toNatClampNeg) (v3 - v3 / 2 * 2) N) (v3 + 1) (mup N 0 2 ((N 0 2) + 0))
    else zlet (f_X5_heal (N 5 x1.toNatClampNeg) (v3 - v3 / 2 * 2) N) (fun q1 =>
    rec (f_X5_isGood (N 5 x1.toNatClampNeg) (v3 - v3 / 2 * 2) N) (v3 + 1) (mup q1.2 0 2 ((N 0 2) + q1.1)))
  else if (f_X5_isGood (N 4 x1.toNatClampNeg) (v3 - v3 / 2 * 2) N) then rec (f_X5_isGood (N 4 x1.toNatClampNeg) (v3 - v3 / 2 * 2) N) (v3 + 1) (mup N 0 2 ((N 0 2) + 0))
  else zlet (f_X5_heal (N 4 x1.toNatClampNeg) (v3 - v3 / 2 * 2) N) (fun q2 =>
  rec (f_X5_isGood (N 4 x1.toNatClampNeg) (v3 - v3 / 2 * 2) N) (v3 + 1) (mup q2.2 0 2 ((N 0 2) + q2.1)))
def l_X5_readOn_4 (x1 : Int32) : Nat → Bool → Int32 → Mem → Bool × Int32 × Mem
  | 0, v2, v3, N => (v2, v3, N)
  | n + 1, v2, v3, N => b_X5_readOn_4 x1 (l_X5_readOn_4 x1 n) v2 v3 N
set_option maxRecDepth 100000 in
set_option maxHeartbeats 4000000 in
theorem kl_X5_readOn_4 (q : ZQ) (x1 : Int32) (hx1 : vp_in x1 53) {K : Bool × Int32 × Mem → ZR} (hx : ∀ e : Bool × Int32 × Mem, PlM e.2.2 ∧ 0 ≤ e.2.1.toInt ∧ e.2.1.toInt ≤ 4 → Zg (zgM q) mX5_readOn 0 0 0 0 (K e) 77 [some (.inr 0), some (.inl x1), some (.inl (bI e.1)), some (.inl e.2.1), none] [] e.2.2) :
    ∀ (n : Nat) (v2 : Bool) (v3 : Int32) (N : Mem), PlM N ∧ 0 ≤ v3.toInt ∧ v3.toInt ≤ 4 → ((4 : Int32).toInt - (v3 : Int32).toInt).toNat < n → Zg (zgM q) mX5_readOn 0 0 0 0 (zlet (l_X5_readOn_4 x1 n v2 v3 N) K) 4 [some (.inr 0), some (.inl x1), some (.inl (bI v2)), some (.inl v3), none] [] N := by
  intro n
  induction n with
  | zero => intro v2 v3 N hI hm; exact absurd hm (Nat.not_lt_zero _)
  | succ n ih =>
    intro v2 v3 N hI hm
    show Zg _ _ _ _ _ _ (zlet (b_X5_readOn_4 x1 (l_X5_readOn_4 x1 n) v2 v3 N) K) _ _ _ _
    unfold b_X5_readOn_4
    refine zg_iload_n (x := v3) dX5_readOn_4 rfl ?_
    refine zg_iconst (v := 4) dX5_readOn_5 rfl ?_
    refine zg_icmpz (tgt := 77) dX5_readOn_6 rfl rfl (fun c6 => ?_) (fun c6 => ?_)
    · refine zg_st (pc' := 77) (L' := [some (.inr 0), some (.inl x1), some (.inl (bI v2)), some (.inl v3), none]) (S' := []) (M' := N) rfl rfl rfl rfl ?_
      refine zg_drop (L' := [some (.inr 0), some (.inl x1), some (.inl (bI v2)), some (.inl v3), none]) ⟨rfl, rfl, rfl, rfl, trivial⟩ ?_
      exact hx (v2, v3, N) hI
    · refine zg_st (pc' := 9) (L' := [some (.inr 0), some (.inl x1), some (.inl (bI v2)), some (.inl v3), none]) (S' := []) (M' := N) rfl rfl rfl rfl ?_
      refine zg_iload_n (x := bI v2) dX5_readOn_9 rfl ?_
      refine zg_ifbn (tgt := 77) dX5_readOn_10 rfl (fun c10 => ?_) (fun c10 => ?_)
      · refine zg_st (pc' := 77) (L' := [some (.inr 0), some (.inl x1), some (.inl (bI v2)), some (.inl v3), none]) (S' := []) (M' := N) rfl rfl rfl rfl ?_
        refine zg_drop (L' := [some (.inr 0), some (.inl x1), some (.inl (bI v2)), some (.inl v3), none]) ⟨rfl, rfl, rfl, rfl, trivial⟩ ?_
        exact hx (v2, v3, N) hI
      · refine zg_st (pc' := 13) (L' := [some (.inr 0), some (.inl x1), some (.inl (bI v2)), some (.inl v3), none]) (S' := []) (M' := N) rfl rfl rfl rfl ?_
        refine zg_iload_n (x := v3) dX5_readOn_13 rfl ?_
        refine zg_iconst (v := 2) dX5_readOn_14 rfl ?_
        refine zg_icmpz (tgt := 27) dX5_readOn_15 rfl rfl (fun c15 => ?_) (fun c15 => ?_)
        · refine zg_st (pc' := 27) (L' := [some (.inr 0), some (.inl x1), some (.inl (bI v2)), some (.inl v3), none]) (S' := []) (M' := N) rfl rfl rfl rfl ?_
          refine zg_aload_n (x := 0) dX5_readOn_27 rfl ?_
          refine zg_getf (v := .inr 5) dX5_readOn_28 zf_X5_26 rfl rfl rfl ?_
          refine zg_iload_n (x := x1) dX5_readOn_31 rfl ?_
          refine zg_iald dX5_readOn_32 rfl hx1 ?_
          refine zg_istore dX5_readOn_33 (by decide) ?_
          refine zg_st (pc' := 35) (L' := [some (.inr 0), some (.inl x1), some (.inl (bI v2)), some (.inl v3), some (.inl (N 5 x1.toNatClampNeg))]) (S' := []) (M' := N) rfl rfl rfl rfl ?_
          refine zg_aload_n (x := 0) dX5_readOn_35 rfl ?_
          refine zg_iload (x := (N 5 x1.toNatClampNeg)) dX5_readOn_36 rfl ?_
          refine zg_iload_n (x := v3) dX5_readOn_38 rfl ?_
          refine zg_iconst (v := 2) dX5_readOn_39 rfl ?_
          refine zg_irem dX5_readOn_40 (by decide) ?_
          refine zg_cV1 (As := [.inl (N 5 x1.toNatClampNeg), .inl (v3 - v3 / 2 * 2)]) (S := []) (v := bI ((f_X5_isGood (N 5 x1.toNatClampNeg) (v3 - v3 / 2 * 2) N))) dX5_readOn_41 zk_X5_82 (k_X5_isGood q (N 5 x1.toNatClampNeg) (v3 - v3 / 2 * 2) N (by first | exact zPl_at hI.1.1 hx1 (z_mod2 hI.2.1) | exact zPl_at hI.1.2 hx1 (z_mod2 hI.2.1))) rfl rfl ⟨by decide, by decide⟩ ⟨by decide, by decide⟩ rfl (Nat.le_of_ble_eq_true rfl) ?_
          refine zg_st (pc' := 44) (L' := [some (.inr 0), some (.inl x1), some (.inl (bI v2)), some (.inl v3), some (.inl (N 5 x1.toNatClampNeg))]) (S' := [.inl (bI ((f_X5_isGood (N 5 x1.toNatClampNeg) (v3 - v3 / 2 * 2) N)))]) (M' := N) rfl rfl rfl rfl ?_
          refine zg_istore_n dX5_readOn_44 (by decide) ?_
          refine zg_st (pc' := 45) (L' := [some (.inr 0), some (.inl x1), some (.inl (bI ((f_X5_isGood (N 5 x1.toNatClampNeg) (v3 - v3 / 2 * 2) N)))), some (.inl v3), some (.inl (N 5 x1.toNatClampNeg))]) (S' := []) (M' := N) rfl rfl rfl rfl ?_
          refine zg_aload_n (x := 0) dX5_readOn_45 rfl ?_
          refine zg_dup dX5_readOn_46 ?_
          refine zg_getf (v := .inl (N 0 2)) dX5_readOn_47 zf_X5_85 rfl rfl rfl ?_
          refine zg_iload_n (x := bI ((f_X5_isGood (N 5 x1.toNatClampNeg) (v3 - v3 / 2 * 2) N))) dX5_readOn_50 rfl ?_
          refine zg_ifbe (tgt := 58) dX5_readOn_51 rfl (fun c51 => ?_) (fun c51 => ?_)
          · refine zg_st (pc' := 54) (L' := [some (.inr 0), some (.inl x1), some (.inl (bI ((f_X5_isGood (N 5 x1.toNatClampNeg) (v3 - v3 / 2 * 2) N)))), some (.inl v3), some (.inl (N 5 x1.toNatClampNeg))]) (S' := [.inl (N 0 2), .inr 0]) (M' := N) rfl rfl rfl rfl ?_
            refine zg_iconst (v := 0) dX5_readOn_54 rfl ?_
            refine zg_goto (tgt := 67) dX5_readOn_55 rfl ?_
            refine zg_st (pc' := 67) (L' := [some (.inr 0), some (.inl x1), some (.inl (bI ((f_X5_isGood (N 5 x1.toNatClampNeg) (v3 - v3 / 2 * 2) N)))), some (.inl v3), some (.inl (N 5 x1.toNatClampNeg))]) (S' := [.inl 0, .inl (N 0 2), .inr 0]) (M' := N) rfl rfl rfl rfl ?_
            refine zg_iadd dX5_readOn_67 ?_
            refine zg_putf dX5_readOn_68 zp_X5_85 rfl rfl ?_
            refine zg_iinc (v := (v3 + 1)) dX5_readOn_71 rfl (by decide) rfl ?_
            refine zg_st (pc' := 74) (L' := [some (.inr 0), some (.inl x1), some (.inl (bI ((f_X5_isGood (N 5 x1.toNatClampNeg) (v3 - v3 / 2 * 2) N)))), some (.inl (v3 + 1)), some (.inl (N 5 x1.toNatClampNeg))]) (S' := []) (M' := (mup N 0 2 ((N 0 2) + 0))) rfl rfl rfl rfl ?_
            refine zg_goto (tgt := 4) dX5_readOn_74 rfl ?_
            refine zg_st (pc' := 4) (L' := [some (.inr 0), some (.inl x1), some (.inl (bI ((f_X5_isGood (N 5 x1.toNatClampNeg) (v3 - v3 / 2 * 2) N)))), some (.inl (v3 + 1)), some (.inl (N 5 x1.toNatClampNeg))]) (S' := []) (M' := (mup N 0 2 ((N 0 2) + 0))) rfl rfl rfl rfl ?_
            refine zg_drop (L' := [some (.inr 0), some (.inl x1), some (.inl (bI ((f_X5_isGood (N 5 x1.toNatClampNeg) (v3 - v3 / 2 * 2) N)))), some (.inl (v3 + 1)), none]) ⟨rfl, rfl, rfl, rfl, trivial⟩ ?_
            exact ih (f_X5_isGood (N 5 x1.toNatClampNeg) (v3 - v3 / 2 * 2) N) (v3 + 1) (mup N 0 2 ((N 0 2) + 0)) ⟨(by first | exact PlM_up (by decide) (by decide) hI.1 | (subst_vars; exact PlM_up (by decide) (by decide) (sp_heal hI.1))), z_inv c6 (by decide) hI.2.1⟩ (z_up c6 hm)
          · refine zg_st (pc' := 58) (L' := [some (.inr 0), some (.inl x1), some (.inl (bI ((f_X5_isGood (N 5 x1.toNatClampNeg) (v3 - v3 / 2 * 2) N)))), some (.inl v3), some (.inl (N 5 x1.toNatClampNeg))]) (S' := [.inl (N 0 2), .inr 0]) (M' := N) rfl rfl rfl rfl ?_
            refine zg_aload_n (x := 0) dX5_readOn_58 rfl ?_
            refine zg_iload (x := (N 5 x1.toNatClampNeg)) dX5_readOn_59 rfl ?_
            refine zg_iload_n (x := v3) dX5_readOn_61 rfl ?_
            refine zg_iconst (v := 2) dX5_readOn_62 rfl ?_
            refine zg_irem dX5_readOn_63 (by decide) ?_
            refine zg_cVIM (As := [.inl (N 5 x1.toNatClampNeg), .inl (v3 - v3 / 2 * 2)]) (S := [.inl (N 0 2), .inr 0]) dX5_readOn_64 zk_X5_88 (k_X5_heal q (N 5 x1.toNatClampNeg) (v3 - v3 / 2 * 2) N (by first | exact zPl_at hI.1.1 hx1 (z_mod2 hI.2.1) | exact zPl_at hI.1.2 hx1 (z_mod2 hI.2.1))) rfl rfl ⟨by decide, by decide⟩ ⟨by decide, by decide⟩ rfl (Nat.le_of_ble_eq_true rfl) (fun q1 e_q1 => ?_)
            try dsimp only
            refine zg_st (pc' := 67) (L' := [some (.inr 0), some (.inl x1), some (.inl (bI ((f_X5_isGood (N 5 x1.toNatClampNeg) (v3 - v3 / 2 * 2) N)))), some (.inl v3), some (.inl (N 5 x1.toNatClampNeg))]) (S' := [.inl q1.1, .inl (N 0 2), .inr 0]) (M' := q1.2) rfl rfl rfl rfl ?_
            refine zg_iadd dX5_readOn_67 ?_
            refine zg_putf dX5_readOn_68 zp_X5_85 rfl rfl ?_
            refine zg_iinc (v := (v3 + 1)) dX5_readOn_71 rfl (by decide) rfl ?_
            refine zg_st (pc' := 74) (L' := [some (.inr 0), some (.inl x1), some (.inl (bI ((f_X5_isGood (N 5 x1.toNatClampNeg) (v3 - v3 / 2 * 2) N)))), some (.inl (v3 + 1)), some (.inl (N 5 x1.toNatClampNeg))]) (S' := []) (M' := (mup q1.2 0 2 ((N 0 2) + q1.1))) rfl rfl rfl rfl ?_
            refine zg_goto (tgt := 4) dX5_readOn_74 rfl ?_
            refine zg_st (pc' := 4) (L' := [some (.inr 0), some (.inl x1), some (.inl (bI ((f_X5_isGood (N 5 x1.toNatClampNeg) (v3 - v3 / 2 * 2) N)))), some (.inl (v3 + 1)), some (.inl (N 5 x1.toNatClampNeg))]) (S' := []) (M' := (mup q1.2 0 2 ((N 0 2) + q1.1))) rfl rfl rfl rfl ?_
            refine zg_drop (L' := [some (.inr 0), some (.inl x1), some (.inl (bI ((f_X5_isGood (N 5 x1.toNatClampNeg) (v3 - v3 / 2 * 2) N)))), some (.inl (v3 + 1)), none]) ⟨rfl, rfl, rfl, rfl, trivial⟩ ?_
            exact ih (f_X5_isGood (N 5 x1.toNatClampNeg) (v3 - v3 / 2 * 2) N) (v3 + 1) (mup q1.2 0 2 ((N 0 2) + q1.1)) ⟨(by first | exact PlM_up (by decide) (by decide) hI.1 | (subst_vars; exact PlM_up (by decide) (by decide) (sp_heal hI.1))), z_inv c6 (by decide) hI.2.1⟩ (z_up c6 hm)
        · refine zg_st (pc' := 18) (L' := [some (.inr 0), some (.inl x1), some (.inl (bI v2)), some (.inl v3), none]) (S' := []) (M' := N) rfl rfl rfl rfl ?_
          refine zg_aload_n (x := 0) dX5_readOn_18 rfl ?_
          refine zg_getf (v := .inr 4) dX5_readOn_19 zf_X5_23 rfl rfl rfl ?_
          refine zg_iload_n (x := x1) dX5_readOn_22 rfl ?_
          refine zg_iald dX5_readOn_23 rfl hx1 ?_
          refine zg_goto (tgt := 33) dX5_readOn_24 rfl ?_
          refine zg_st (pc' := 33) (L' := [some (.inr 0), some (.inl x1), some (.inl (bI v2)), some (.inl v3), none]) (S' := [.inl (N 4 x1.toNatClampNeg)]) (M' := N) rfl rfl rfl rfl ?_
          refine zg_istore dX5_readOn_33 (by decide) ?_
          refine zg_st (pc' := 35) (L' := [some (.inr 0), some (.inl x1), some (.inl (bI v2)), some (.inl v3), some (.inl (N 4 x1.toNatClampNeg))]) (S' := []) (M' := N) rfl rfl rfl rfl ?_
          refine zg_aload_n (x := 0) dX5_readOn_35 rfl ?_
          refine zg_iload (x := (N 4 x1.toNatClampNeg)) dX5_readOn_36 rfl ?_
          refine zg_iload_n (x := v3) dX5_readOn_38 rfl ?_
          refine zg_iconst (v := 2) dX5_readOn_39 rfl ?_
          refine zg_irem dX5_readOn_40 (by decide) ?_
          refine zg_cV1 (As := [.inl (N 4 x1.toNatClampNeg), .inl (v3 - v3 / 2 * 2)]) (S := []) (v := bI ((f_X5_isGood (N 4 x1.toNatClampNeg) (v3 - v3 / 2 * 2) N))) dX5_readOn_41 zk_X5_82 (k_X5_isGood q (N 4 x1.toNatClampNeg) (v3 - v3 / 2 * 2) N (by first | exact zPl_at hI.1.1 hx1 (z_mod2 hI.2.1) | exact zPl_at hI.1.2 hx1 (z_mod2 hI.2.1))) rfl rfl ⟨by decide, by decide⟩ ⟨by decide, by decide⟩ rfl (Nat.le_of_ble_eq_true rfl) ?_
          refine zg_st (pc' := 44) (L' := [some (.inr 0), some (.inl x1), some (.inl (bI v2)), some (.inl v3), some (.inl (N 4 x1.toNatClampNeg))]) (S' := [.inl (bI ((f_X5_isGood (N 4 x1.toNatClampNeg) (v3 - v3 / 2 * 2) N)))]) (M' := N) rfl rfl rfl rfl ?_
          refine zg_istore_n dX5_readOn_44 (by decide) ?_
          refine zg_st (pc' := 45) (L' := [some (.inr 0), some (.inl x1), some (.inl (bI ((f_X5_isGood (N 4 x1.toNatClampNeg) (v3 - v3 / 2 * 2) N)))), some (.inl v3), some (.inl (N 4 x1.toNatClampNeg))]) (S' := []) (M' := N) rfl rfl rfl rfl ?_
          refine zg_aload_n (x := 0) dX5_readOn_45 rfl ?_
          refine zg_dup dX5_readOn_46 ?_
          refine zg_getf (v := .inl (N 0 2)) dX5_readOn_47 zf_X5_85 rfl rfl rfl ?_
          refine zg_iload_n (x := bI ((f_X5_isGood (N 4 x1.toNatClampNeg) (v3 - v3 / 2 * 2) N))) dX5_readOn_50 rfl ?_
          refine zg_ifbe (tgt := 58) dX5_readOn_51 rfl (fun c51 => ?_) (fun c51 => ?_)
          · refine zg_st (pc' := 54) (L' := [some (.inr 0), some (.inl x1), some (.inl (bI ((f_X5_isGood (N 4 x1.toNatClampNeg) (v3 - v3 / 2 * 2) N)))), some (.inl v3), some (.inl (N 4 x1.toNatClampNeg))]) (S' := [.inl (N 0 2), .inr 0]) (M' := N) rfl rfl rfl rfl ?_
            refine zg_iconst (v := 0) dX5_readOn_54 rfl ?_
            refine zg_goto (tgt := 67) dX5_readOn_55 rfl ?_
            refine zg_st (pc' := 67) (L' := [some (.inr 0), some (.inl x1), some (.inl (bI ((f_X5_isGood (N 4 x1.toNatClampNeg) (v3 - v3 / 2 * 2) N)))), some (.inl v3), some (.inl (N 4 x1.toNatClampNeg))]) (S' := [.inl 0, .inl (N 0 2), .inr 0]) (M' := N) rfl rfl rfl rfl ?_
            refine zg_iadd dX5_readOn_67 ?_
            refine zg_putf dX5_readOn_68 zp_X5_85 rfl rfl ?_
            refine zg_iinc (v := (v3 + 1)) dX5_readOn_71 rfl (by decide) rfl ?_
            refine zg_st (pc' := 74) (L' := [some (.inr 0), some (.inl x1), some (.inl (bI ((f_X5_isGood (N 4 x1.toNatClampNeg) (v3 - v3 / 2 * 2) N)))), some (.inl (v3 + 1)), some (.inl (N 4 x1.toNatClampNeg))]) (S' := []) (M' := (mup N 0 2 ((N 0 2) + 0))) rfl rfl rfl rfl ?_
            refine zg_goto (tgt := 4) dX5_readOn_74 rfl ?_
            refine zg_st (pc' := 4) (L' := [some (.inr 0), some (.inl x1), some (.inl (bI ((f_X5_isGood (N 4 x1.toNatClampNeg) (v3 - v3 / 2 * 2) N)))), some (.inl (v3 + 1)), some (.inl (N 4 x1.toNatClampNeg))]) (S' := []) (M' := (mup N 0 2 ((N 0 2) + 0))) rfl rfl rfl rfl ?_
            refine zg_drop (L' := [some (.inr 0), some (.inl x1), some (.inl (bI ((f_X5_isGood (N 4 x1.toNatClampNeg) (v3 - v3 / 2 * 2) N)))), some (.inl (v3 + 1)), none]) ⟨rfl, rfl, rfl, rfl, trivial⟩ ?_
            exact ih (f_X5_isGood (N 4 x1.toNatClampNeg) (v3 - v3 / 2 * 2) N) (v3 + 1) (mup N 0 2 ((N 0 2) + 0)) ⟨(by first | exact PlM_up (by decide) (by decide) hI.1 | (subst_vars; exact PlM_up (by decide) (by decide) (sp_heal hI.1))), z_inv c6 (by decide) hI.2.1⟩ (z_up c6 hm)
          · refine zg_st (pc' := 58) (L' := [some (.inr 0), some (.inl x1), some (.inl (bI ((f_X5_isGood (N 4 x1.toNatClampNeg) (v3 - v3 / 2 * 2) N)))), some (.inl v3), some (.inl (N 4 x1.toNatClampNeg))]) (S' := [.inl (N 0 2), .inr 0]) (M' := N) rfl rfl rfl rfl ?_
            refine zg_aload_n (x := 0) dX5_readOn_58 rfl ?_
            refine zg_iload (x := (N 4 x1.toNatClampNeg)) dX5_readOn_59 rfl ?_
            refine zg_iload_n (x := v3) dX5_readOn_61 rfl ?_
            refine zg_iconst (v := 2) dX5_readOn_62 rfl ?_
            refine zg_irem dX5_readOn_63 (by decide) ?_
            refine zg_cVIM (As := [.inl (N 4 x1.toNatClampNeg), .inl (v3 - v3 / 2 * 2)]) (S := [.inl (N 0 2), .inr 0]) dX5_readOn_64 zk_X5_88 (k_X5_heal q (N 4 x1.toNatClampNeg) (v3 - v3 / 2 * 2) N (by first | exact zPl_at hI.1.1 hx1 (z_mod2 hI.2.1) | exact zPl_at hI.1.2 hx1 (z_mod2 hI.2.1))) rfl rfl ⟨by decide, by decide⟩ ⟨by decide, by decide⟩ rfl (Nat.le_of_ble_eq_true rfl) (fun q2 e_q2 => ?_)
            try dsimp only
            refine zg_st (pc' := 67) (L' := [some (.inr 0), some (.inl x1), some (.inl (bI ((f_X5_isGood (N 4 x1.toNatClampNeg) (v3 - v3 / 2 * 2) N)))), some (.inl v3), some (.inl (N 4 x1.toNatClampNeg))]) (S' := [.inl q2.1, .inl (N 0 2), .inr 0]) (M' := q2.2) rfl rfl rfl rfl ?_
            refine zg_iadd dX5_readOn_67 ?_
            refine zg_putf dX5_readOn_68 zp_X5_85 rfl rfl ?_
            refine zg_iinc (v := (v3 + 1)) dX5_readOn_71 rfl (by decide) rfl ?_
            refine zg_st (pc' := 74) (L' := [some (.inr 0), some (.inl x1), some (.inl (bI ((f_X5_isGood (N 4 x1.toNatClampNeg) (v3 - v3 / 2 * 2) N)))), some (.inl (v3 + 1)), some (.inl (N 4 x1.toNatClampNeg))]) (S' := []) (M' := (mup q2.2 0 2 ((N 0 2) + q2.1))) rfl rfl rfl rfl ?_
            refine zg_goto (tgt := 4) dX5_readOn_74 rfl ?_
            refine zg_st (pc' := 4) (L' := [some (.inr 0), some (.inl x1), some (.inl (bI ((f_X5_isGood (N 4 x1.toNatClampNeg) (v3 - v3 / 2 * 2) N)))), some (.inl (v3 + 1)), some (.inl (N 4 x1.toNatClampNeg))]) (S' := []) (M' := (mup q2.2 0 2 ((N 0 2) + q2.1))) rfl rfl rfl rfl ?_
            refine zg_drop (L' := [some (.inr 0), some (.inl x1), some (.inl (bI ((f_X5_isGood (N 4 x1.toNatClampNeg) (v3 - v3 / 2 * 2) N)))), some (.inl (v3 + 1)), none]) ⟨rfl, rfl, rfl, rfl, trivial⟩ ?_
            exact ih (f_X5_isGood (N 4 x1.toNatClampNeg) (v3 - v3 / 2 * 2) N) (v3 + 1) (mup q2.2 0 2 ((N 0 2) + q2.1)) ⟨(by first | exact PlM_up (by decide) (by decide) hI.1 | (subst_vars; exact PlM_up (by decide) (by decide) (sp_heal hI.1))), z_inv c6 (by decide) hI.2.1⟩ (z_up c6 hm)
def f_X5_readOn (p1 : Int32) (M : Mem) : Mem :=
  zlet (l_X5_readOn_4 p1 5 false 0 M) (fun s3 =>
  s3.2.2)
set_option maxRecDepth 100000 in
set_option maxHeartbeats 4000000 in
theorem k_X5_readOn (q : ZQ) (p1 : Int32) (M : Mem) (hp : vp_in p1 53 ∧ PlM M) : Zc (zgM q) mX5_readOn 0 0 [.inr 0, .inl p1] M (wV (f_X5_readOn p1 M)) := by
  refine Zc.of (by decide) zi_X5_readOn.1 (Nat.le_of_ble_eq_true rfl) rfl ?_
  show Zg _ _ _ _ _ _ (zlet (f_X5_readOn p1 M) wV) _ _ _ _
  unfold f_X5_readOn
  refine zg_iconst (v := 0) dX5_readOn_0 rfl ?_
  refine zg_istore_n dX5_readOn_1 (by decide) ?_
  refine zg_st (pc' := 2) (L' := [some (.inr 0), some (.inl p1), some (.inl 0), none, none]) (S' := []) (M' := M) rfl rfl rfl rfl ?_
  refine zg_iconst (v := 0) dX5_readOn_2 rfl ?_
  refine zg_istore_n dX5_readOn_3 (by decide) ?_
  refine zg_st (pc' := 4) (L' := [some (.inr 0), some (.inl p1), some (.inl 0), some (.inl 0), none]) (S' := []) (M' := M) rfl rfl rfl rfl ?_
  refine zg_asc ?_
  refine zg_drop (L' := [some (.inr 0), some (.inl p1), some (.inl 0), some (.inl 0), none]) ⟨rfl, rfl, rfl, rfl, trivial⟩ ?_
  refine kl_X5_readOn_4 q p1  hp.1 (fun s3 hI_s3 => ?_) 5 false 0 M ⟨hp.2, by decide⟩ (by decide)
  try dsimp only [Sum.elim_inr]
  refine zg_st (pc' := 77) (L' := [some (.inr 0), some (.inl p1), some (.inl (bI s3.1)), some (.inl s3.2.1), none]) (S' := []) (M' := s3.2.2) rfl rfl rfl rfl ?_
  exact zg_vret dX5_readOn_77 rfl ⟨by decide, by decide⟩ rfl
theorem dX5_readIfThere_0 : decode cX5_readIfThere 0 = .ok (.aload_n 0, 1) := by decide +kernel
theorem dX5_readIfThere_1 : decode cX5_readIfThere 1 = .ok (.iload_n 1, 1) := by decide +kernel
theorem dX5_readIfThere_2 : decode cX5_readIfThere 2 = .ok (.invokevirtual 92, 3) := by decide +kernel
theorem dX5_readIfThere_5 : decode cX5_readIfThere 5 = .ok (.ifCond .eq 8, 3) := by decide +kernel
theorem dX5_readIfThere_8 : decode cX5_readIfThere 8 = .ok (.aload_n 0, 1) := by decide +kernel
theorem dX5_readIfThere_9 : decode cX5_readIfThere 9 = .ok (.iload_n 1, 1) := by decide +kernel
theorem dX5_readIfThere_10 : decode cX5_readIfThere 10 = .ok (.invokevirtual 105, 3) := by decide +kernel
theorem dX5_readIfThere_13 : decode cX5_readIfThere 13 = .ok (.return_, 1) := by decide +kernel
def f_X5_readIfThere (p1 : Int32) (M : Mem) : Mem :=
  if (f_X5_isThere p1 M) then zlet (f_X5_readOn p1 M) (fun N1 =>
    N1)
  else M
set_option maxRecDepth 100000 in
set_option maxHeartbeats 4000000 in
theorem k_X5_readIfThere (q : ZQ) (p1 : Int32) (M : Mem) (hp : vp_in p1 53 ∧ PlM M) : Zc (zgM q) mX5_readIfThere 0 0 [.inr 0, .inl p1] M (wV (f_X5_readIfThere p1 M)) := by
  refine Zc.of (by decide) zi_X5_readIfThere.1 (Nat.le_of_ble_eq_true rfl) rfl ?_
  show Zg _ _ _ _ _ _ (zlet (f_X5_readIfThere p1 M) wV) _ _ _ _
  unfold f_X5_readIfThere
  refine zg_aload_n (x := 0) dX5_readIfThere_0 rfl ?_
  refine zg_iload_n (x := p1) dX5_readIfThere_1 rfl ?_
  refine zg_cV1 (As := [.inl p1]) (S := []) (v := bI ((f_X5_isThere p1 M))) dX5_readIfThere_2 zk_X5_92 (k_X5_isThere q p1 M hp.1) rfl rfl ⟨by decide, by decide⟩ ⟨by decide, by decide⟩ rfl (Nat.le_of_ble_eq_true rfl) ?_
  refine zg_st (pc' := 5) (L' := [some (.inr 0), some (.inl p1)]) (S' := [.inl (bI ((f_X5_isThere p1 M)))]) (M' := M) rfl rfl rfl rfl ?_
  refine zg_ifbe (tgt := 13) dX5_readIfThere_5 rfl (fun c5 => ?_) (fun c5 => ?_)
  · refine zg_st (pc' := 8) (L' := [some (.inr 0), some (.inl p1)]) (S' := []) (M' := M) rfl rfl rfl rfl ?_
    refine zg_aload_n (x := 0) dX5_readIfThere_8 rfl ?_
    refine zg_iload_n (x := p1) dX5_readIfThere_9 rfl ?_
    refine zg_cVV (As := [.inl p1]) (S := []) dX5_readIfThere_10 zk_X5_105 (k_X5_readOn q p1 M hp) rfl rfl ⟨by decide, by decide⟩ ⟨by decide, by decide⟩ rfl (Nat.le_of_ble_eq_true rfl) (fun N1 e_N1 => ?_)
    try dsimp only
    refine zg_st (pc' := 13) (L' := [some (.inr 0), some (.inl p1)]) (S' := []) (M' := N1) rfl rfl rfl rfl ?_
    exact zg_vret dX5_readIfThere_13 rfl ⟨by decide, by decide⟩ rfl
  · refine zg_st (pc' := 13) (L' := [some (.inr 0), some (.inl p1)]) (S' := []) (M' := M) rfl rfl rfl rfl ?_
    exact zg_vret dX5_readIfThere_13 rfl ⟨by decide, by decide⟩ rfl
theorem dX5_nextData_0 : decode cX5_nextData 0 = .ok (.iconst (-1), 1) := by decide +kernel
theorem dX5_nextData_1 : decode cX5_nextData 1 = .ok (.istore_n 3, 1) := by decide +kernel
theorem dX5_nextData_2 : decode cX5_nextData 2 = .ok (.iload_n 1, 1) := by decide +kernel
theorem dX5_nextData_3 : decode cX5_nextData 3 = .ok (.iload_n 2, 1) := by decide +kernel
theorem dX5_nextData_4 : decode cX5_nextData 4 = .ok (.invokestatic 70, 3) := by decide +kernel
theorem dX5_nextData_7 : decode cX5_nextData 7 = .ok (.istore 4, 2) := by decide +kernel
theorem dX5_nextData_9 : decode cX5_nextData 9 = .ok (.bipush 11, 2) := by decide +kernel
theorem dX5_nextData_11 : decode cX5_nextData 11 = .ok (.istore 5, 2) := by decide +kernel
theorem dX5_nextData_13 : decode cX5_nextData 13 = .ok (.iload 4, 2) := by decide +kernel
theorem dX5_nextData_15 : decode cX5_nextData 15 = .ok (.ifCond .eq 36, 3) := by decide +kernel
theorem dX5_nextData_18 : decode cX5_nextData 18 = .ok (.iload 5, 2) := by decide +kernel
theorem dX5_nextData_20 : decode cX5_nextData 20 = .ok (.iload_n 2, 1) := by decide +kernel
theorem dX5_nextData_21 : decode cX5_nextData 21 = .ok (.if_icmp .lt 30, 3) := by decide +kernel
theorem dX5_nextData_24 : decode cX5_nextData 24 = .ok (.aload_n 0, 1) := by decide +kernel
theorem dX5_nextData_25 : decode cX5_nextData 25 = .ok (.bipush 12, 2) := by decide +kernel
theorem dX5_nextData_27 : decode cX5_nextData 27 = .ok (.iload_n 1, 1) := by decide +kernel
theorem dX5_nextData_28 : decode cX5_nextData 28 = .ok (.imul, 1) := by decide +kernel
theorem dX5_nextData_29 : decode cX5_nextData 29 = .ok (.iload 5, 2) := by decide +kernel
theorem dX5_nextData_31 : decode cX5_nextData 31 = .ok (.iadd, 1) := by decide +kernel
theorem dX5_nextData_32 : decode cX5_nextData 32 = .ok (.invokevirtual 78, 3) := by decide +kernel
theorem dX5_nextData_35 : decode cX5_nextData 35 = .ok (.ifCond .ne 7, 3) := by decide +kernel
theorem dX5_nextData_38 : decode cX5_nextData 38 = .ok (.iload_n 3, 1) := by decide +kernel
theorem dX5_nextData_39 : decode cX5_nextData 39 = .ok (.goto 5, 3) := by decide +kernel
theorem dX5_nextData_42 : decode cX5_nextData 42 = .ok (.iload 5, 2) := by decide +kernel
theorem dX5_nextData_44 : decode cX5_nextData 44 = .ok (.istore_n 3, 1) := by decide +kernel
theorem dX5_nextData_45 : decode cX5_nextData 45 = .ok (.iinc 5 (-1), 3) := by decide +kernel
theorem dX5_nextData_48 : decode cX5_nextData 48 = .ok (.goto (-35), 3) := by decide +kernel
theorem dX5_nextData_51 : decode cX5_nextData 51 = .ok (.aload_n 0, 1) := by decide +kernel
theorem dX5_nextData_52 : decode cX5_nextData 52 = .ok (.iload 4, 2) := by decide +kernel
theorem dX5_nextData_54 : decode cX5_nextData 54 = .ok (.ifCond .ne 7, 3) := by decide +kernel
theorem dX5_nextData_57 : decode cX5_nextData 57 = .ok (.iconst 1, 1) := by decide +kernel
theorem dX5_nextData_58 : decode cX5_nextData 58 = .ok (.goto 13, 3) := by decide +kernel
theorem dX5_nextData_61 : decode cX5_nextData 61 = .ok (.iload_n 3, 1) := by decide +kernel
theorem dX5_nextData_62 : decode cX5_nextData 62 = .ok (.iconst (-1), 1) := by decide +kernel
theorem dX5_nextData_63 : decode cX5_nextData 63 = .ok (.if_icmp .ne 7, 3) := by decide +kernel
theorem dX5_nextData_66 : decode cX5_nextData 66 = .ok (.iconst 2, 1) := by decide +kernel
theorem dX5_nextData_67 : decode cX5_nextData 67 = .ok (.goto 4, 3) := by decide +kernel
theorem dX5_nextData_70 : decode cX5_nextData 70 = .ok (.iconst 0, 1) := by decide +kernel
theorem dX5_nextData_71 : decode cX5_nextData 71 = .ok (.invokevirtual 74, 3) := by decide +kernel
theorem dX5_nextData_74 : decode cX5_nextData 74 = .ok (.ifCond .eq 7, 3) := by decide +kernel
theorem dX5_nextData_77 : decode cX5_nextData 77 = .ok (.iconst 0, 1) := by decide +kernel
theorem dX5_nextData_78 : decode cX5_nextData 78 = .ok (.goto 4, 3) := by decide +kernel
theorem dX5_nextData_81 : decode cX5_nextData 81 = .ok (.iload_n 3, 1) := by decide +kernel
theorem dX5_nextData_82 : decode cX5_nextData 82 = .ok (.ireturn, 1) := by decide +kernel
def b_X5_nextData_13 (x1 : Int32) (x2 : Int32) (x4 : Bool) (M : Mem) (rec : Int32 → Int32 → Int32 × Int32) (v3 : Int32) (v5 : Int32) : Int32 × Int32 :=
  if x4 then if v5 < x2 then (v3, v5)
    else if ¬ (f_X5_now ((12 * x1) + v5) M) = 0 then rec v5 (v5 + (-1))
    else rec v3 (v5 + (-1))
  else (v3, v5)
def l_X5_nextData_13 (x1 : Int32) (x2 : Int32) (x4 : Bool) (M : Mem) : Nat → Int32 → Int32 → Int32 × Int32
  | 0, v3, v5 => (v3, v5)
  | n + 1, v3, v5 => b_X5_nextData_13 x1 x2 x4 M (l_X5_nextData_13 x1 x2 x4 M n) v3 v5
set_option maxRecDepth 100000 in
set_option maxHeartbeats 4000000 in
theorem kl_X5_nextData_13 (q : ZQ) (x1 : Int32) (x2 : Int32) (x4 : Bool) (M : Mem) (hx : x4 = true → (0 ≤ x1.toInt ∧ x1.toInt < 4) ∧ 0 ≤ x2.toInt ∧ x2.toInt < 12) {K : Int32 × Int32 → ZR} (hx : ∀ e : Int32 × Int32, e.2.toInt ≤ 11 → Zg (zgM q) mX5_nextData 0 0 0 0 (K e) 51 [some (.inr 0), some (.inl x1), some (.inl x2), some (.inl e.1), some (.inl (bI x4)), some (.inl e.2)] [] M) :
    ∀ (n : Nat) (v3 : Int32) (v5 : Int32), v5.toInt ≤ 11 → ((v5 : Int32).toInt + 1 - (x2 : Int32).toInt).toNat < n → Zg (zgM q) mX5_nextData 0 0 0 0 (zlet (l_X5_nextData_13 x1 x2 x4 M n v3 v5) K) 13 [some (.inr 0), some (.inl x1), some (.inl x2), some (.inl v3), some (.inl (bI x4)), some (.inl v5)] [] M := by
  intro n
  induction n with
  | zero => intro v3 v5 hI hm; exact absurd hm (Nat.not_lt_zero _)
  | succ n ih =>
    intro v3 v5 hI hm
    show Zg _ _ _ _ _ _ (zlet (b_X5_nextData_13 x1 x2 x4 M (l_X5_nextData_13 x1 x2 x4 M n) v3 v5) K) _ _ _ _
    unfold b_X5_nextData_13
    refine zg_iload (x := bI x4) dX5_nextData_13 rfl ?_
    refine zg_ifbe (tgt := 51) dX5_nextData_15 rfl (fun c15 => ?_) (fun c15 => ?_)
    · refine zg_st (pc' := 18) (L' := [some (.inr 0), some (.inl x1), some (.inl x2), some (.inl v3), some (.inl (bI x4)), some (.inl v5)]) (S' := []) (M' := M) rfl rfl rfl rfl ?_
      refine zg_iload (x := v5) dX5_nextData_18 rfl ?_
      refine zg_iload_n (x := x2) dX5_nextData_20 rfl ?_
      refine zg_icmpz (tgt := 51) dX5_nextData_21 rfl rfl (fun c21 => ?_) (fun c21 => ?_)
      · refine zg_st (pc' := 51) (L' := [some (.inr 0), some (.inl x1), some (.inl x2), some (.inl v3), some (.inl (bI x4)), some (.inl v5)]) (S' := []) (M' := M) rfl rfl rfl rfl ?_
        refine zg_drop (L' := [some (.inr 0), some (.inl x1), some (.inl x2), some (.inl v3), some (.inl (bI x4)), some (.inl v5)]) ⟨rfl, rfl, rfl, rfl, rfl, rfl, trivial⟩ ?_
        exact hx (v3, v5) hI
      · refine zg_st (pc' := 24) (L' := [some (.inr 0), some (.inl x1), some (.inl x2), some (.inl v3), some (.inl (bI x4)), some (.inl v5)]) (S' := []) (M' := M) rfl rfl rfl rfl ?_
        refine zg_aload_n (x := 0) dX5_nextData_24 rfl ?_
        refine zg_bipush (v := 12) dX5_nextData_25 rfl ?_
        refine zg_iload_n (x := x1) dX5_nextData_27 rfl ?_
        refine zg_imul dX5_nextData_28 ?_
        refine zg_iload (x := v5) dX5_nextData_29 rfl ?_
        refine zg_iadd dX5_nextData_31 ?_
        refine zg_cV1 (As := [.inl ((12 * x1) + v5)]) (S := []) (v := (f_X5_now ((12 * x1) + v5) M)) dX5_nextData_32 zk_X5_78 (k_X5_now q ((12 * x1) + v5) M (z_nd (hx c15) c21 hI)) rfl rfl ⟨by decide, by decide⟩ ⟨by decide, by decide⟩ rfl (Nat.le_of_ble_eq_true rfl) ?_
        refine zg_st (pc' := 35) (L' := [some (.inr 0), some (.inl x1), some (.inl x2), some (.inl v3), some (.inl (bI x4)), some (.inl v5)]) (S' := [.inl (f_X5_now ((12 * x1) + v5) M)]) (M' := M) rfl rfl rfl rfl ?_
        refine zg_ifz (tgt := 42) dX5_nextData_35 rfl rfl (fun c35 => ?_) (fun c35 => ?_)
        · refine zg_st (pc' := 42) (L' := [some (.inr 0), some (.inl x1), some (.inl x2), some (.inl v3), some (.inl (bI x4)), some (.inl v5)]) (S' := []) (M' := M) rfl rfl rfl rfl ?_
          refine zg_iload (x := v5) dX5_nextData_42 rfl ?_
          refine zg_istore_n dX5_nextData_44 (by decide) ?_
          refine zg_st (pc' := 45) (L' := [some (.inr 0), some (.inl x1), some (.inl x2), some (.inl v5), some (.inl (bI x4)), some (.inl v5)]) (S' := []) (M' := M) rfl rfl rfl rfl ?_
          refine zg_iinc (v := (v5 + (-1))) dX5_nextData_45 rfl (by decide) rfl ?_
          refine zg_st (pc' := 48) (L' := [some (.inr 0), some (.inl x1), some (.inl x2), some (.inl v5), some (.inl (bI x4)), some (.inl (v5 + (-1)))]) (S' := []) (M' := M) rfl rfl rfl rfl ?_
          refine zg_goto (tgt := 13) dX5_nextData_48 rfl ?_
          refine zg_st (pc' := 13) (L' := [some (.inr 0), some (.inl x1), some (.inl x2), some (.inl v5), some (.inl (bI x4)), some (.inl (v5 + (-1)))]) (S' := []) (M' := M) rfl rfl rfl rfl ?_
          refine zg_drop (L' := [some (.inr 0), some (.inl x1), some (.inl x2), some (.inl v5), some (.inl (bI x4)), some (.inl (v5 + (-1)))]) ⟨rfl, rfl, rfl, rfl, rfl, rfl, trivial⟩ ?_
          exact ih v5 (v5 + (-1)) (z_dns c21 (z_hx (hx c15)) hI) (z_dn c21 (z_hx (hx c15)) hm)
        · refine zg_st (pc' := 38) (L' := [some (.inr 0), some (.inl x1), some (.inl x2), some (.inl v3), some (.inl (bI x4)), some (.inl v5)]) (S' := []) (M' := M) rfl rfl rfl rfl ?_
          refine zg_iload_n (x := v3) dX5_nextData_38 rfl ?_
          refine zg_goto (tgt := 44) dX5_nextData_39 rfl ?_
          refine zg_st (pc' := 44) (L' := [some (.inr 0), some (.inl x1), some (.inl x2), some (.inl v3), some (.inl (bI x4)), some (.inl v5)]) (S' := [.inl v3]) (M' := M) rfl rfl rfl rfl ?_
          refine zg_istore_n dX5_nextData_44 (by decide) ?_
          refine zg_st (pc' := 45) (L' := [some (.inr 0), some (.inl x1), some (.inl x2), some (.inl v3), some (.inl (bI x4)), some (.inl v5)]) (S' := []) (M' := M) rfl rfl rfl rfl ?_
          refine zg_iinc (v := (v5 + (-1))) dX5_nextData_45 rfl (by decide) rfl ?_
          refine zg_st (pc' := 48) (L' := [some (.inr 0), some (.inl x1), some (.inl x2), some (.inl v3), some (.inl (bI x4)), some (.inl (v5 + (-1)))]) (S' := []) (M' := M) rfl rfl rfl rfl ?_
          refine zg_goto (tgt := 13) dX5_nextData_48 rfl ?_
          refine zg_st (pc' := 13) (L' := [some (.inr 0), some (.inl x1), some (.inl x2), some (.inl v3), some (.inl (bI x4)), some (.inl (v5 + (-1)))]) (S' := []) (M' := M) rfl rfl rfl rfl ?_
          refine zg_drop (L' := [some (.inr 0), some (.inl x1), some (.inl x2), some (.inl v3), some (.inl (bI x4)), some (.inl (v5 + (-1)))]) ⟨rfl, rfl, rfl, rfl, rfl, rfl, trivial⟩ ?_
          exact ih v3 (v5 + (-1)) (z_dns c21 (z_hx (hx c15)) hI) (z_dn c21 (z_hx (hx c15)) hm)
    · refine zg_st (pc' := 51) (L' := [some (.inr 0), some (.inl x1), some (.inl x2), some (.inl v3), some (.inl (bI x4)), some (.inl v5)]) (S' := []) (M' := M) rfl rfl rfl rfl ?_
      refine zg_drop (L' := [some (.inr 0), some (.inl x1), some (.inl x2), some (.inl v3), some (.inl (bI x4)), some (.inl v5)]) ⟨rfl, rfl, rfl, rfl, rfl, rfl, trivial⟩ ?_
      exact hx (v3, v5) hI
def f_X5_nextData (p1 : Int32) (p2 : Int32) (M : Mem) : (Int32 × Mem) :=
  zlet (l_X5_nextData_13 p1 p2 (f_X5_isBlock p1 p2) M (((11 : Int32).toInt + 1 - (p2 : Int32).toInt).toNat + 1) (-1) 11) (fun s1 =>
  if (f_X5_isBlock p1 p2) then if ¬ s1.1 = (-1) then (s1.1, (mup M 0 0 0))
      else (0, (mup M 0 0 2))
    else (0, (mup M 0 0 1)))
set_option maxRecDepth 100000 in
set_option maxHeartbeats 4000000 in
theorem k_X5_nextData (q : ZQ) (p1 : Int32) (p2 : Int32) (M : Mem) : Zc (zgM q) mX5_nextData 0 0 [.inr 0, .inl p1, .inl p2] M (wIM (f_X5_nextData p1 p2 M)) := by
  refine Zc.of (by decide) zi_X5_nextData.1 (Nat.le_of_ble_eq_true rfl) rfl ?_
  show Zg _ _ _ _ _ _ (zlet (f_X5_nextData p1 p2 M) wIM) _ _ _ _
  unfold f_X5_nextData
  refine zg_iconst (v := (-1)) dX5_nextData_0 rfl ?_
  refine zg_istore_n dX5_nextData_1 (by decide) ?_
  refine zg_st (pc' := 2) (L' := [some (.inr 0), some (.inl p1), some (.inl p2), some (.inl (-1)), none, none]) (S' := []) (M' := M) rfl rfl rfl rfl ?_
  refine zg_iload_n (x := p1) dX5_nextData_2 rfl ?_
  refine zg_iload_n (x := p2) dX5_nextData_3 rfl ?_
  refine zg_cS1 (As := [.inl p1, .inl p2]) (S := []) (v := bI ((f_X5_isBlock p1 p2))) dX5_nextData_4 zk_X5_70 (k_X5_isBlock q p1 p2 M) rfl ⟨by decide, by decide⟩ ⟨by decide, by decide⟩ rfl (Nat.le_of_ble_eq_true rfl) ?_
  refine zg_st (pc' := 7) (L' := [some (.inr 0), some (.inl p1), some (.inl p2), some (.inl (-1)), none, none]) (S' := [.inl (bI ((f_X5_isBlock p1 p2)))]) (M' := M) rfl rfl rfl rfl ?_
  refine zg_istore dX5_nextData_7 (by decide) ?_
  refine zg_st (pc' := 9) (L' := [some (.inr 0), some (.inl p1), some (.inl p2), some (.inl (-1)), some (.inl (bI ((f_X5_isBlock p1 p2)))), none]) (S' := []) (M' := M) rfl rfl rfl rfl ?_
  refine zg_bipush (v := 11) dX5_nextData_9 rfl ?_
  refine zg_istore dX5_nextData_11 (by decide) ?_
  refine zg_st (pc' := 13) (L' := [some (.inr 0), some (.inl p1), some (.inl p2), some (.inl (-1)), some (.inl (bI ((f_X5_isBlock p1 p2)))), some (.inl 11)]) (S' := []) (M' := M) rfl rfl rfl rfl ?_
  refine zg_asc ?_
  refine zg_drop (L' := [some (.inr 0), some (.inl p1), some (.inl p2), some (.inl (-1)), some (.inl (bI ((f_X5_isBlock p1 p2)))), some (.inl 11)]) ⟨rfl, rfl, rfl, rfl, rfl, rfl, trivial⟩ ?_
  refine kl_X5_nextData_13 q p1 p2 (f_X5_isBlock p1 p2) M (fun h => q_MisBlock.mp h) (fun s1 hI_s1 => ?_) (((11 : Int32).toInt + 1 - (p2 : Int32).toInt).toNat + 1) (-1) 11 (by decide) (Nat.lt_succ_self _)
  try dsimp only [Sum.elim_inr]
  refine zg_st (pc' := 51) (L' := [some (.inr 0), some (.inl p1), some (.inl p2), some (.inl s1.1), some (.inl (bI ((f_X5_isBlock p1 p2)))), some (.inl s1.2)]) (S' := []) (M' := M) rfl rfl rfl rfl ?_
  refine zg_aload_n (x := 0) dX5_nextData_51 rfl ?_
  refine zg_iload (x := bI ((f_X5_isBlock p1 p2))) dX5_nextData_52 rfl ?_
  refine zg_ifbn (tgt := 61) dX5_nextData_54 rfl (fun c54 => ?_) (fun c54 => ?_)
  · refine zg_st (pc' := 61) (L' := [some (.inr 0), some (.inl p1), some (.inl p2), some (.inl s1.1), some (.inl (bI ((f_X5_isBlock p1 p2)))), some (.inl s1.2)]) (S' := [.inr 0]) (M' := M) rfl rfl rfl rfl ?_
    refine zg_iload_n (x := s1.1) dX5_nextData_61 rfl ?_
    refine zg_iconst (v := (-1)) dX5_nextData_62 rfl ?_
    refine zg_icmpz (tgt := 70) dX5_nextData_63 rfl rfl (fun c63 => ?_) (fun c63 => ?_)
    · refine zg_st (pc' := 70) (L' := [some (.inr 0), some (.inl p1), some (.inl p2), some (.inl s1.1), some (.inl (bI ((f_X5_isBlock p1 p2)))), some (.inl s1.2)]) (S' := [.inr 0]) (M' := M) rfl rfl rfl rfl ?_
      refine zg_iconst (v := 0) dX5_nextData_70 rfl ?_
      refine zg_cV1 (As := [.inl 0]) (S := []) (v := 0) (N0 := (mup M 0 0 0)) dX5_nextData_71 zk_X5_74 (k_X5_refused q 0 M) rfl rfl ⟨by decide, by decide⟩ ⟨by decide, by decide⟩ rfl (Nat.le_of_ble_eq_true rfl) ?_
      refine zg_st (pc' := 74) (L' := [some (.inr 0), some (.inl p1), some (.inl p2), some (.inl s1.1), some (.inl (bI ((f_X5_isBlock p1 p2)))), some (.inl s1.2)]) (S' := [.inl 0]) (M' := (mup M 0 0 0)) rfl rfl rfl rfl ?_
      refine zg_jt (tgt := 81) dX5_nextData_74 rfl (show (0 : Int32) = 0 from by decide) ?_
      refine zg_st (pc' := 81) (L' := [some (.inr 0), some (.inl p1), some (.inl p2), some (.inl s1.1), some (.inl (bI ((f_X5_isBlock p1 p2)))), some (.inl s1.2)]) (S' := []) (M' := (mup M 0 0 0)) rfl rfl rfl rfl ?_
      refine zg_iload_n (x := s1.1) dX5_nextData_81 rfl ?_
      exact zg_iret dX5_nextData_82 rfl rfl ⟨by decide, by decide⟩ rfl
    · refine zg_st (pc' := 66) (L' := [some (.inr 0), some (.inl p1), some (.inl p2), some (.inl s1.1), some (.inl (bI ((f_X5_isBlock p1 p2)))), some (.inl s1.2)]) (S' := [.inr 0]) (M' := M) rfl rfl rfl rfl ?_
      refine zg_iconst (v := 2) dX5_nextData_66 rfl ?_
      refine zg_goto (tgt := 71) dX5_nextData_67 rfl ?_
      refine zg_st (pc' := 71) (L' := [some (.inr 0), some (.inl p1), some (.inl p2), some (.inl s1.1), some (.inl (bI ((f_X5_isBlock p1 p2)))), some (.inl s1.2)]) (S' := [.inl 2, .inr 0]) (M' := M) rfl rfl rfl rfl ?_
      refine zg_cV1 (As := [.inl 2]) (S := []) (v := 1) (N0 := (mup M 0 0 2)) dX5_nextData_71 zk_X5_74 (k_X5_refused q 2 M) rfl rfl ⟨by decide, by decide⟩ ⟨by decide, by decide⟩ rfl (Nat.le_of_ble_eq_true rfl) ?_
      refine zg_st (pc' := 74) (L' := [some (.inr 0), some (.inl p1), some (.inl p2), some (.inl s1.1), some (.inl (bI ((f_X5_isBlock p1 p2)))), some (.inl s1.2)]) (S' := [.inl 1]) (M' := (mup M 0 0 2)) rfl rfl rfl rfl ?_
      refine zg_jf (tgt := 81) dX5_nextData_74 rfl (show ¬ ((1 : Int32) = 0) from by decide) ?_
      refine zg_st (pc' := 77) (L' := [some (.inr 0), some (.inl p1), some (.inl p2), some (.inl s1.1), some (.inl (bI ((f_X5_isBlock p1 p2)))), some (.inl s1.2)]) (S' := []) (M' := (mup M 0 0 2)) rfl rfl rfl rfl ?_
      refine zg_iconst (v := 0) dX5_nextData_77 rfl ?_
      refine zg_goto (tgt := 82) dX5_nextData_78 rfl ?_
      refine zg_st (pc' := 82) (L' := [some (.inr 0), some (.inl p1), some (.inl p2), some (.inl s1.1), some (.inl (bI ((f_X5_isBlock p1 p2)))), some (.inl s1.2)]) (S' := [.inl 0]) (M' := (mup M 0 0 2)) rfl rfl rfl rfl ?_
      exact zg_iret dX5_nextData_82 rfl rfl ⟨by decide, by decide⟩ rfl
  · refine zg_st (pc' := 57) (L' := [some (.inr 0), some (.inl p1), some (.inl p2), some (.inl s1.1), some (.inl (bI ((f_X5_isBlock p1 p2)))), some (.inl s1.2)]) (S' := [.inr 0]) (M' := M) rfl rfl rfl rfl ?_
    refine zg_iconst (v := 1) dX5_nextData_57 rfl ?_
    refine zg_goto (tgt := 71) dX5_nextData_58 rfl ?_
    refine zg_st (pc' := 71) (L' := [some (.inr 0), some (.inl p1), some (.inl p2), some (.inl s1.1), some (.inl (bI ((f_X5_isBlock p1 p2)))), some (.inl s1.2)]) (S' := [.inl 1, .inr 0]) (M' := M) rfl rfl rfl rfl ?_
    refine zg_cV1 (As := [.inl 1]) (S := []) (v := 1) (N0 := (mup M 0 0 1)) dX5_nextData_71 zk_X5_74 (k_X5_refused q 1 M) rfl rfl ⟨by decide, by decide⟩ ⟨by decide, by decide⟩ rfl (Nat.le_of_ble_eq_true rfl) ?_
    refine zg_st (pc' := 74) (L' := [some (.inr 0), some (.inl p1), some (.inl p2), some (.inl s1.1), some (.inl (bI ((f_X5_isBlock p1 p2)))), some (.inl s1.2)]) (S' := [.inl 1]) (M' := (mup M 0 0 1)) rfl rfl rfl rfl ?_
    refine zg_jf (tgt := 81) dX5_nextData_74 rfl (show ¬ ((1 : Int32) = 0) from by decide) ?_
    refine zg_st (pc' := 77) (L' := [some (.inr 0), some (.inl p1), some (.inl p2), some (.inl s1.1), some (.inl (bI ((f_X5_isBlock p1 p2)))), some (.inl s1.2)]) (S' := []) (M' := (mup M 0 0 1)) rfl rfl rfl rfl ?_
    refine zg_iconst (v := 0) dX5_nextData_77 rfl ?_
    refine zg_goto (tgt := 82) dX5_nextData_78 rfl ?_
    refine zg_st (pc' := 82) (L' := [some (.inr 0), some (.inl p1), some (.inl p2), some (.inl s1.1), some (.inl (bI ((f_X5_isBlock p1 p2)))), some (.inl s1.2)]) (S' := [.inl 0]) (M' := (mup M 0 0 1)) rfl rfl rfl rfl ?_
    exact zg_iret dX5_nextData_82 rfl rfl ⟨by decide, by decide⟩ rfl
theorem dX5_nextHole_0 : decode cX5_nextHole 0 = .ok (.bipush 12, 2) := by decide +kernel
theorem dX5_nextHole_2 : decode cX5_nextHole 2 = .ok (.istore_n 3, 1) := by decide +kernel
theorem dX5_nextHole_3 : decode cX5_nextHole 3 = .ok (.iload_n 1, 1) := by decide +kernel
theorem dX5_nextHole_4 : decode cX5_nextHole 4 = .ok (.iload_n 2, 1) := by decide +kernel
theorem dX5_nextHole_5 : decode cX5_nextHole 5 = .ok (.invokestatic 70, 3) := by decide +kernel
theorem dX5_nextHole_8 : decode cX5_nextHole 8 = .ok (.istore 4, 2) := by decide +kernel
theorem dX5_nextHole_10 : decode cX5_nextHole 10 = .ok (.bipush 11, 2) := by decide +kernel
theorem dX5_nextHole_12 : decode cX5_nextHole 12 = .ok (.istore 5, 2) := by decide +kernel
theorem dX5_nextHole_14 : decode cX5_nextHole 14 = .ok (.iload 4, 2) := by decide +kernel
theorem dX5_nextHole_16 : decode cX5_nextHole 16 = .ok (.ifCond .eq 36, 3) := by decide +kernel
theorem dX5_nextHole_19 : decode cX5_nextHole 19 = .ok (.iload 5, 2) := by decide +kernel
theorem dX5_nextHole_21 : decode cX5_nextHole 21 = .ok (.iload_n 2, 1) := by decide +kernel
theorem dX5_nextHole_22 : decode cX5_nextHole 22 = .ok (.if_icmp .lt 30, 3) := by decide +kernel
theorem dX5_nextHole_25 : decode cX5_nextHole 25 = .ok (.aload_n 0, 1) := by decide +kernel
theorem dX5_nextHole_26 : decode cX5_nextHole 26 = .ok (.bipush 12, 2) := by decide +kernel
theorem dX5_nextHole_28 : decode cX5_nextHole 28 = .ok (.iload_n 1, 1) := by decide +kernel
theorem dX5_nextHole_29 : decode cX5_nextHole 29 = .ok (.imul, 1) := by decide +kernel
theorem dX5_nextHole_30 : decode cX5_nextHole 30 = .ok (.iload 5, 2) := by decide +kernel
theorem dX5_nextHole_32 : decode cX5_nextHole 32 = .ok (.iadd, 1) := by decide +kernel
theorem dX5_nextHole_33 : decode cX5_nextHole 33 = .ok (.invokevirtual 78, 3) := by decide +kernel
theorem dX5_nextHole_36 : decode cX5_nextHole 36 = .ok (.ifCond .ne 8, 3) := by decide +kernel
theorem dX5_nextHole_39 : decode cX5_nextHole 39 = .ok (.iload 5, 2) := by decide +kernel
theorem dX5_nextHole_41 : decode cX5_nextHole 41 = .ok (.goto 4, 3) := by decide +kernel
theorem dX5_nextHole_44 : decode cX5_nextHole 44 = .ok (.iload_n 3, 1) := by decide +kernel
theorem dX5_nextHole_45 : decode cX5_nextHole 45 = .ok (.istore_n 3, 1) := by decide +kernel
theorem dX5_nextHole_46 : decode cX5_nextHole 46 = .ok (.iinc 5 (-1), 3) := by decide +kernel
theorem dX5_nextHole_49 : decode cX5_nextHole 49 = .ok (.goto (-35), 3) := by decide +kernel
theorem dX5_nextHole_52 : decode cX5_nextHole 52 = .ok (.aload_n 0, 1) := by decide +kernel
theorem dX5_nextHole_53 : decode cX5_nextHole 53 = .ok (.iload 4, 2) := by decide +kernel
theorem dX5_nextHole_55 : decode cX5_nextHole 55 = .ok (.ifCond .eq 7, 3) := by decide +kernel
theorem dX5_nextHole_58 : decode cX5_nextHole 58 = .ok (.iconst 0, 1) := by decide +kernel
theorem dX5_nextHole_59 : decode cX5_nextHole 59 = .ok (.goto 4, 3) := by decide +kernel
theorem dX5_nextHole_62 : decode cX5_nextHole 62 = .ok (.iconst 1, 1) := by decide +kernel
theorem dX5_nextHole_63 : decode cX5_nextHole 63 = .ok (.invokevirtual 74, 3) := by decide +kernel
theorem dX5_nextHole_66 : decode cX5_nextHole 66 = .ok (.ifCond .eq 7, 3) := by decide +kernel
theorem dX5_nextHole_69 : decode cX5_nextHole 69 = .ok (.iconst 0, 1) := by decide +kernel
theorem dX5_nextHole_70 : decode cX5_nextHole 70 = .ok (.goto 4, 3) := by decide +kernel
theorem dX5_nextHole_73 : decode cX5_nextHole 73 = .ok (.iload_n 3, 1) := by decide +kernel
theorem dX5_nextHole_74 : decode cX5_nextHole 74 = .ok (.ireturn, 1) := by decide +kernel
def b_X5_nextHole_14 (x1 : Int32) (x2 : Int32) (x4 : Bool) (M : Mem) (rec : Int32 → Int32 → Int32 × Int32) (v3 : Int32) (v5 : Int32) : Int32 × Int32 :=
  if x4 then if v5 < x2 then (v3, v5)
    else if ¬ (f_X5_now ((12 * x1) + v5) M) = 0 then rec v3 (v5 + (-1))
    else rec v5 (v5 + (-1))
  else (v3, v5)
def l_X5_nextHole_14 (x1 : Int32) (x2 : Int32) (x4 : Bool) (M : Mem) : Nat → Int32 → Int32 → Int32 × Int32
  | 0, v3, v5 => (v3, v5)
  | n + 1, v3, v5 => b_X5_nextHole_14 x1 x2 x4 M (l_X5_nextHole_14 x1 x2 x4 M n) v3 v5
set_option maxRecDepth 100000 in
set_option maxHeartbeats 4000000 in
theorem kl_X5_nextHole_14 (q : ZQ) (x1 : Int32) (x2 : Int32) (x4 : Bool) (M : Mem) (hx : x4 = true → (0 ≤ x1.toInt ∧ x1.toInt < 4) ∧ 0 ≤ x2.toInt ∧ x2.toInt < 12) {K : Int32 × Int32 → ZR} (hx : ∀ e : Int32 × Int32, e.2.toInt ≤ 11 → Zg (zgM q) mX5_nextHole 0 0 0 0 (K e) 52 [some (.inr 0), some (.inl x1), some (.inl x2), some (.inl e.1), some (.inl (bI x4)), some (.inl e.2)] [] M) :
    ∀ (n : Nat) (v3 : Int32) (v5 : Int32), v5.toInt ≤ 11 → ((v5 : Int32).toInt + 1 - (x2 : Int32).toInt).toNat < n → Zg (zgM q) mX5_nextHole 0 0 0 0 (zlet (l_X5_nextHole_14 x1 x2 x4 M n v3 v5) K) 14 [some (.inr 0), some (.inl x1), some (.inl x2), some (.inl v3), some (.inl (bI x4)), some (.inl v5)] [] M := by
  intro n
  induction n with
  | zero => intro v3 v5 hI hm; exact absurd hm (Nat.not_lt_zero _)
  | succ n ih =>
    intro v3 v5 hI hm
    show Zg _ _ _ _ _ _ (zlet (b_X5_nextHole_14 x1 x2 x4 M (l_X5_nextHole_14 x1 x2 x4 M n) v3 v5) K) _ _ _ _
    unfold b_X5_nextHole_14
    refine zg_iload (x := bI x4) dX5_nextHole_14 rfl ?_
    refine zg_ifbe (tgt := 52) dX5_nextHole_16 rfl (fun c16 => ?_) (fun c16 => ?_)
    · refine zg_st (pc' := 19) (L' := [some (.inr 0), some (.inl x1), some (.inl x2), some (.inl v3), some (.inl (bI x4)), some (.inl v5)]) (S' := []) (M' := M) rfl rfl rfl rfl ?_
      refine zg_iload (x := v5) dX5_nextHole_19 rfl ?_
      refine zg_iload_n (x := x2) dX5_nextHole_21 rfl ?_
      refine zg_icmpz (tgt := 52) dX5_nextHole_22 rfl rfl (fun c22 => ?_) (fun c22 => ?_)
      · refine zg_st (pc' := 52) (L' := [some (.inr 0), some (.inl x1), some (.inl x2), some (.inl v3), some (.inl (bI x4)), some (.inl v5)]) (S' := []) (M' := M) rfl rfl rfl rfl ?_
        refine zg_drop (L' := [some (.inr 0), some (.inl x1), some (.inl x2), some (.inl v3), some (.inl (bI x4)), some (.inl v5)]) ⟨rfl, rfl, rfl, rfl, rfl, rfl, trivial⟩ ?_
        exact hx (v3, v5) hI
      · refine zg_st (pc' := 25) (L' := [some (.inr 0), some (.inl x1), some (.inl x2), some (.inl v3), some (.inl (bI x4)), some (.inl v5)]) (S' := []) (M' := M) rfl rfl rfl rfl ?_
        refine zg_aload_n (x := 0) dX5_nextHole_25 rfl ?_
        refine zg_bipush (v := 12) dX5_nextHole_26 rfl ?_
        refine zg_iload_n (x := x1) dX5_nextHole_28 rfl ?_
        refine zg_imul dX5_nextHole_29 ?_
        refine zg_iload (x := v5) dX5_nextHole_30 rfl ?_
        refine zg_iadd dX5_nextHole_32 ?_
        refine zg_cV1 (As := [.inl ((12 * x1) + v5)]) (S := []) (v := (f_X5_now ((12 * x1) + v5) M)) dX5_nextHole_33 zk_X5_78 (k_X5_now q ((12 * x1) + v5) M (z_nd (hx c16) c22 hI)) rfl rfl ⟨by decide, by decide⟩ ⟨by decide, by decide⟩ rfl (Nat.le_of_ble_eq_true rfl) ?_
        refine zg_st (pc' := 36) (L' := [some (.inr 0), some (.inl x1), some (.inl x2), some (.inl v3), some (.inl (bI x4)), some (.inl v5)]) (S' := [.inl (f_X5_now ((12 * x1) + v5) M)]) (M' := M) rfl rfl rfl rfl ?_
        refine zg_ifz (tgt := 44) dX5_nextHole_36 rfl rfl (fun c36 => ?_) (fun c36 => ?_)
        · refine zg_st (pc' := 44) (L' := [some (.inr 0), some (.inl x1), some (.inl x2), some (.inl v3), some (.inl (bI x4)), some (.inl v5)]) (S' := []) (M' := M) rfl rfl rfl rfl ?_
          refine zg_iload_n (x := v3) dX5_nextHole_44 rfl ?_
          refine zg_istore_n dX5_nextHole_45 (by decide) ?_
          refine zg_st (pc' := 46) (L' := [some (.inr 0), some (.inl x1), some (.inl x2), some (.inl v3), some (.inl (bI x4)), some (.inl v5)]) (S' := []) (M' := M) rfl rfl rfl rfl ?_
          refine zg_iinc (v := (v5 + (-1))) dX5_nextHole_46 rfl (by decide) rfl ?_
          refine zg_st (pc' := 49) (L' := [some (.inr 0), some (.inl x1), some (.inl x2), some (.inl v3), some (.inl (bI x4)), some (.inl (v5 + (-1)))]) (S' := []) (M' := M) rfl rfl rfl rfl ?_
          refine zg_goto (tgt := 14) dX5_nextHole_49 rfl ?_
          refine zg_st (pc' := 14) (L' := [some (.inr 0), some (.inl x1), some (.inl x2), some (.inl v3), some (.inl (bI x4)), some (.inl (v5 + (-1)))]) (S' := []) (M' := M) rfl rfl rfl rfl ?_
          refine zg_drop (L' := [some (.inr 0), some (.inl x1), some (.inl x2), some (.inl v3), some (.inl (bI x4)), some (.inl (v5 + (-1)))]) ⟨rfl, rfl, rfl, rfl, rfl, rfl, trivial⟩ ?_
          exact ih v3 (v5 + (-1)) (z_dns c22 (z_hx (hx c16)) hI) (z_dn c22 (z_hx (hx c16)) hm)
        · refine zg_st (pc' := 39) (L' := [some (.inr 0), some (.inl x1), some (.inl x2), some (.inl v3), some (.inl (bI x4)), some (.inl v5)]) (S' := []) (M' := M) rfl rfl rfl rfl ?_
          refine zg_iload (x := v5) dX5_nextHole_39 rfl ?_
          refine zg_goto (tgt := 45) dX5_nextHole_41 rfl ?_
          refine zg_st (pc' := 45) (L' := [some (.inr 0), some (.inl x1), some (.inl x2), some (.inl v3), some (.inl (bI x4)), some (.inl v5)]) (S' := [.inl v5]) (M' := M) rfl rfl rfl rfl ?_
          refine zg_istore_n dX5_nextHole_45 (by decide) ?_
          refine zg_st (pc' := 46) (L' := [some (.inr 0), some (.inl x1), some (.inl x2), some (.inl v5), some (.inl (bI x4)), some (.inl v5)]) (S' := []) (M' := M) rfl rfl rfl rfl ?_
          refine zg_iinc (v := (v5 + (-1))) dX5_nextHole_46 rfl (by decide) rfl ?_
          refine zg_st (pc' := 49) (L' := [some (.inr 0), some (.inl x1), some (.inl x2), some (.inl v5), some (.inl (bI x4)), some (.inl (v5 + (-1)))]) (S' := []) (M' := M) rfl rfl rfl rfl ?_
          refine zg_goto (tgt := 14) dX5_nextHole_49 rfl ?_
          refine zg_st (pc' := 14) (L' := [some (.inr 0), some (.inl x1), some (.inl x2), some (.inl v5), some (.inl (bI x4)), some (.inl (v5 + (-1)))]) (S' := []) (M' := M) rfl rfl rfl rfl ?_
          refine zg_drop (L' := [some (.inr 0), some (.inl x1), some (.inl x2), some (.inl v5), some (.inl (bI x4)), some (.inl (v5 + (-1)))]) ⟨rfl, rfl, rfl, rfl, rfl, rfl, trivial⟩ ?_
          exact ih v5 (v5 + (-1)) (z_dns c22 (z_hx (hx c16)) hI) (z_dn c22 (z_hx (hx c16)) hm)
    · refine zg_st (pc' := 52) (L' := [some (.inr 0), some (.inl x1), some (.inl x2), some (.inl v3), some (.inl (bI x4)), some (.inl v5)]) (S' := []) (M' := M) rfl rfl rfl rfl ?_
      refine zg_drop (L' := [some (.inr 0), some (.inl x1), some (.inl x2), some (.inl v3), some (.inl (bI x4)), some (.inl v5)]) ⟨rfl, rfl, rfl, rfl, rfl, rfl, trivial⟩ ?_
      exact hx (v3, v5) hI
def f_X5_nextHole (p1 : Int32) (p2 : Int32) (M : Mem) : (Int32 × Mem) :=
  zlet (l_X5_nextHole_14 p1 p2 (f_X5_isBlock p1 p2) M (((11 : Int32).toInt + 1 - (p2 : Int32).toInt).toNat + 1) 12 11) (fun s1 =>
  if (f_X5_isBlock p1 p2) then (s1.1, (mup M 0 0 0))
    else (0, (mup M 0 0 1)))
set_option maxRecDepth 100000 in
set_option maxHeartbeats 4000000 in
theorem k_X5_nextHole (q : ZQ) (p1 : Int32) (p2 : Int32) (M : Mem) : Zc (zgM q) mX5_nextHole 0 0 [.inr 0, .inl p1, .inl p2] M (wIM (f_X5_nextHole p1 p2 M)) := by
  refine Zc.of (by decide) zi_X5_nextHole.1 (Nat.le_of_ble_eq_true rfl) rfl ?_
  show Zg _ _ _ _ _ _ (zlet (f_X5_nextHole p1 p2 M) wIM) _ _ _ _
  unfold f_X5_nextHole
  refine zg_bipush (v := 12) dX5_nextHole_0 rfl ?_
  refine zg_istore_n dX5_nextHole_2 (by decide) ?_
  refine zg_st (pc' := 3) (L' := [some (.inr 0), some (.inl p1), some (.inl p2), some (.inl 12), none, none]) (S' := []) (M' := M) rfl rfl rfl rfl ?_
  refine zg_iload_n (x := p1) dX5_nextHole_3 rfl ?_
  refine zg_iload_n (x := p2) dX5_nextHole_4 rfl ?_
  refine zg_cS1 (As := [.inl p1, .inl p2]) (S := []) (v := bI ((f_X5_isBlock p1 p2))) dX5_nextHole_5 zk_X5_70 (k_X5_isBlock q p1 p2 M) rfl ⟨by decide, by decide⟩ ⟨by decide, by decide⟩ rfl (Nat.le_of_ble_eq_true rfl) ?_
  refine zg_st (pc' := 8) (L' := [some (.inr 0), some (.inl p1), some (.inl p2), some (.inl 12), none, none]) (S' := [.inl (bI ((f_X5_isBlock p1 p2)))]) (M' := M) rfl rfl rfl rfl ?_
  refine zg_istore dX5_nextHole_8 (by decide) ?_
  refine zg_st (pc' := 10) (L' := [some (.inr 0), some (.inl p1), some (.inl p2), some (.inl 12), some (.inl (bI ((f_X5_isBlock p1 p2)))), none]) (S' := []) (M' := M) rfl rfl rfl rfl ?_
  refine zg_bipush (v := 11) dX5_nextHole_10 rfl ?_
  refine zg_istore dX5_nextHole_12 (by decide) ?_
  refine zg_st (pc' := 14) (L' := [some (.inr 0), some (.inl p1), some (.inl p2), some (.inl 12), some (.inl (bI ((f_X5_isBlock p1 p2)))), some (.inl 11)]) (S' := []) (M' := M) rfl rfl rfl rfl ?_
  refine zg_asc ?_
  refine zg_drop (L' := [some (.inr 0), some (.inl p1), some (.inl p2), some (.inl 12), some (.inl (bI ((f_X5_isBlock p1 p2)))), some (.inl 11)]) ⟨rfl, rfl, rfl, rfl, rfl, rfl, trivial⟩ ?_
  refine kl_X5_nextHole_14 q p1 p2 (f_X5_isBlock p1 p2) M (fun h => q_MisBlock.mp h) (fun s1 hI_s1 => ?_) (((11 : Int32).toInt + 1 - (p2 : Int32).toInt).toNat + 1) 12 11 (by decide) (Nat.lt_succ_self _)
  try dsimp only [Sum.elim_inr]
  refine zg_st (pc' := 52) (L' := [some (.inr 0), some (.inl p1), some (.inl p2), some (.inl s1.1), some (.inl (bI ((f_X5_isBlock p1 p2)))), some (.inl s1.2)]) (S' := []) (M' := M) rfl rfl rfl rfl ?_
  refine zg_aload_n (x := 0) dX5_nextHole_52 rfl ?_
  refine zg_iload (x := bI ((f_X5_isBlock p1 p2))) dX5_nextHole_53 rfl ?_
  refine zg_ifbe (tgt := 62) dX5_nextHole_55 rfl (fun c55 => ?_) (fun c55 => ?_)
  · refine zg_st (pc' := 58) (L' := [some (.inr 0), some (.inl p1), some (.inl p2), some (.inl s1.1), some (.inl (bI ((f_X5_isBlock p1 p2)))), some (.inl s1.2)]) (S' := [.inr 0]) (M' := M) rfl rfl rfl rfl ?_
    refine zg_iconst (v := 0) dX5_nextHole_58 rfl ?_
    refine zg_goto (tgt := 63) dX5_nextHole_59 rfl ?_
    refine zg_st (pc' := 63) (L' := [some (.inr 0), some (.inl p1), some (.inl p2), some (.inl s1.1), some (.inl (bI ((f_X5_isBlock p1 p2)))), some (.inl s1.2)]) (S' := [.inl 0, .inr 0]) (M' := M) rfl rfl rfl rfl ?_
    refine zg_cV1 (As := [.inl 0]) (S := []) (v := 0) (N0 := (mup M 0 0 0)) dX5_nextHole_63 zk_X5_74 (k_X5_refused q 0 M) rfl rfl ⟨by decide, by decide⟩ ⟨by decide, by decide⟩ rfl (Nat.le_of_ble_eq_true rfl) ?_
    refine zg_st (pc' := 66) (L' := [some (.inr 0), some (.inl p1), some (.inl p2), some (.inl s1.1), some (.inl (bI ((f_X5_isBlock p1 p2)))), some (.inl s1.2)]) (S' := [.inl 0]) (M' := (mup M 0 0 0)) rfl rfl rfl rfl ?_
    refine zg_jt (tgt := 73) dX5_nextHole_66 rfl (show (0 : Int32) = 0 from by decide) ?_
    refine zg_st (pc' := 73) (L' := [some (.inr 0), some (.inl p1), some (.inl p2), some (.inl s1.1), some (.inl (bI ((f_X5_isBlock p1 p2)))), some (.inl s1.2)]) (S' := []) (M' := (mup M 0 0 0)) rfl rfl rfl rfl ?_
    refine zg_iload_n (x := s1.1) dX5_nextHole_73 rfl ?_
    exact zg_iret dX5_nextHole_74 rfl rfl ⟨by decide, by decide⟩ rfl
  · refine zg_st (pc' := 62) (L' := [some (.inr 0), some (.inl p1), some (.inl p2), some (.inl s1.1), some (.inl (bI ((f_X5_isBlock p1 p2)))), some (.inl s1.2)]) (S' := [.inr 0]) (M' := M) rfl rfl rfl rfl ?_
    refine zg_iconst (v := 1) dX5_nextHole_62 rfl ?_
    refine zg_cV1 (As := [.inl 1]) (S := []) (v := 1) (N0 := (mup M 0 0 1)) dX5_nextHole_63 zk_X5_74 (k_X5_refused q 1 M) rfl rfl ⟨by decide, by decide⟩ ⟨by decide, by decide⟩ rfl (Nat.le_of_ble_eq_true rfl) ?_
    refine zg_st (pc' := 66) (L' := [some (.inr 0), some (.inl p1), some (.inl p2), some (.inl s1.1), some (.inl (bI ((f_X5_isBlock p1 p2)))), some (.inl s1.2)]) (S' := [.inl 1]) (M' := (mup M 0 0 1)) rfl rfl rfl rfl ?_
    refine zg_jf (tgt := 73) dX5_nextHole_66 rfl (show ¬ ((1 : Int32) = 0) from by decide) ?_
    refine zg_st (pc' := 69) (L' := [some (.inr 0), some (.inl p1), some (.inl p2), some (.inl s1.1), some (.inl (bI ((f_X5_isBlock p1 p2)))), some (.inl s1.2)]) (S' := []) (M' := (mup M 0 0 1)) rfl rfl rfl rfl ?_
    refine zg_iconst (v := 0) dX5_nextHole_69 rfl ?_
    refine zg_goto (tgt := 74) dX5_nextHole_70 rfl ?_
    refine zg_st (pc' := 74) (L' := [some (.inr 0), some (.inl p1), some (.inl p2), some (.inl s1.1), some (.inl (bI ((f_X5_isBlock p1 p2)))), some (.inl s1.2)]) (S' := [.inl 0]) (M' := (mup M 0 0 1)) rfl rfl rfl rfl ?_
    exact zg_iret dX5_nextHole_74 rfl rfl ⟨by decide, by decide⟩ rfl
theorem dX5_hasData_0 : decode cX5_hasData 0 = .ok (.iconst 0, 1) := by decide +kernel
theorem dX5_hasData_1 : decode cX5_hasData 1 = .ok (.istore_n 2, 1) := by decide +kernel
theorem dX5_hasData_2 : decode cX5_hasData 2 = .ok (.bipush 12, 2) := by decide +kernel
theorem dX5_hasData_4 : decode cX5_hasData 4 = .ok (.iload_n 1, 1) := by decide +kernel
theorem dX5_hasData_5 : decode cX5_hasData 5 = .ok (.imul, 1) := by decide +kernel
theorem dX5_hasData_6 : decode cX5_hasData 6 = .ok (.istore_n 3, 1) := by decide +kernel
theorem dX5_hasData_7 : decode cX5_hasData 7 = .ok (.iload_n 3, 1) := by decide +kernel
theorem dX5_hasData_8 : decode cX5_hasData 8 = .ok (.bipush 12, 2) := by decide +kernel
theorem dX5_hasData_10 : decode cX5_hasData 10 = .ok (.iload_n 1, 1) := by decide +kernel
theorem dX5_hasData_11 : decode cX5_hasData 11 = .ok (.imul, 1) := by decide +kernel
theorem dX5_hasData_12 : decode cX5_hasData 12 = .ok (.bipush 12, 2) := by decide +kernel
theorem dX5_hasData_14 : decode cX5_hasData 14 = .ok (.iadd, 1) := by decide +kernel
theorem dX5_hasData_15 : decode cX5_hasData 15 = .ok (.if_icmp .ge 27, 3) := by decide +kernel
theorem dX5_hasData_18 : decode cX5_hasData 18 = .ok (.iload_n 2, 1) := by decide +kernel
theorem dX5_hasData_19 : decode cX5_hasData 19 = .ok (.ifCond .ne 11, 3) := by decide +kernel
theorem dX5_hasData_22 : decode cX5_hasData 22 = .ok (.aload_n 0, 1) := by decide +kernel
theorem dX5_hasData_23 : decode cX5_hasData 23 = .ok (.iload_n 3, 1) := by decide +kernel
theorem dX5_hasData_24 : decode cX5_hasData 24 = .ok (.invokevirtual 78, 3) := by decide +kernel
theorem dX5_hasData_27 : decode cX5_hasData 27 = .ok (.ifCond .eq 7, 3) := by decide +kernel
theorem dX5_hasData_30 : decode cX5_hasData 30 = .ok (.iconst 1, 1) := by decide +kernel
theorem dX5_hasData_31 : decode cX5_hasData 31 = .ok (.goto 4, 3) := by decide +kernel
theorem dX5_hasData_34 : decode cX5_hasData 34 = .ok (.iconst 0, 1) := by decide +kernel
theorem dX5_hasData_35 : decode cX5_hasData 35 = .ok (.istore_n 2, 1) := by decide +kernel
theorem dX5_hasData_36 : decode cX5_hasData 36 = .ok (.iinc 3 1, 3) := by decide +kernel
theorem dX5_hasData_39 : decode cX5_hasData 39 = .ok (.goto (-32), 3) := by decide +kernel
theorem dX5_hasData_42 : decode cX5_hasData 42 = .ok (.iload_n 2, 1) := by decide +kernel
theorem dX5_hasData_43 : decode cX5_hasData 43 = .ok (.ireturn, 1) := by decide +kernel
def b_X5_hasData_7 (x1 : Int32) (M : Mem) (rec : Bool → Int32 → Bool × Int32) (v2 : Bool) (v3 : Int32) : Bool × Int32 :=
  if ((12 * x1) + 12) ≤ v3 then (v2, v3)
  else if v2 then rec true (v3 + 1)
  else if (f_X5_now v3 M) = 0 then rec false (v3 + 1)
  else rec true (v3 + 1)
def l_X5_hasData_7 (x1 : Int32) (M : Mem) : Nat → Bool → Int32 → Bool × Int32
  | 0, v2, v3 => (v2, v3)
  | n + 1, v2, v3 => b_X5_hasData_7 x1 M (l_X5_hasData_7 x1 M n) v2 v3
set_option maxRecDepth 100000 in
set_option maxHeartbeats 4000000 in
theorem kl_X5_hasData_7 (q : ZQ) (x1 : Int32) (M : Mem) (hx1 : 0 ≤ x1.toInt ∧ x1.toInt < 4) {K : Bool × Int32 → ZR} (hx : ∀ e : Bool × Int32, (0 : Int) ≤ e.2.toInt → Zg (zgM q) mX5_hasData 0 0 0 0 (K e) 42 [some (.inr 0), some (.inl x1), some (.inl (bI e.1)), some (.inl e.2)] [] M) :
    ∀ (n : Nat) (v2 : Bool) (v3 : Int32), (0 : Int) ≤ v3.toInt → ((((12 * x1) + 12) : Int32).toInt - (v3 : Int32).toInt).toNat < n → Zg (zgM q) mX5_hasData 0 0 0 0 (zlet (l_X5_hasData_7 x1 M n v2 v3) K) 7 [some (.inr 0), some (.inl x1), some (.inl (bI v2)), some (.inl v3)] [] M := by
  intro n
  induction n with
  | zero => intro v2 v3 hI hm; exact absurd hm (Nat.not_lt_zero _)
  | succ n ih =>
    intro v2 v3 hI hm
    show Zg _ _ _ _ _ _ (zlet (b_X5_hasData_7 x1 M (l_X5_hasData_7 x1 M n) v2 v3) K) _ _ _ _
    unfold b_X5_hasData_7
    refine zg_iload_n (x := v3) dX5_hasData_7 rfl ?_
    refine zg_bipush (v := 12) dX5_hasData_8 rfl ?_
    refine zg_iload_n (x := x1) dX5_hasData_10 rfl ?_
    refine zg_imul dX5_hasData_11 ?_
    refine zg_bipush (v := 12) dX5_hasData_12 rfl ?_
    refine zg_iadd dX5_hasData_14 ?_
    refine zg_icmpz (tgt := 42) dX5_hasData_15 rfl rfl (fun c15 => ?_) (fun c15 => ?_)
    · refine zg_st (pc' := 42) (L' := [some (.inr 0), some (.inl x1), some (.inl (bI v2)), some (.inl v3)]) (S' := []) (M' := M) rfl rfl rfl rfl ?_
      refine zg_drop (L' := [some (.inr 0), some (.inl x1), some (.inl (bI v2)), some (.inl v3)]) ⟨rfl, rfl, rfl, rfl, trivial⟩ ?_
      exact hx (v2, v3) hI
    · refine zg_st (pc' := 18) (L' := [some (.inr 0), some (.inl x1), some (.inl (bI v2)), some (.inl v3)]) (S' := []) (M' := M) rfl rfl rfl rfl ?_
      refine zg_iload_n (x := bI v2) dX5_hasData_18 rfl ?_
      refine zg_ifbn (tgt := 30) dX5_hasData_19 rfl (fun c19 => ?_) (fun c19 => ?_)
      · refine zg_st (pc' := 30) (L' := [some (.inr 0), some (.inl x1), some (.inl (bI v2)), some (.inl v3)]) (S' := []) (M' := M) rfl rfl rfl rfl ?_
        refine zg_iconst (v := 1) dX5_hasData_30 rfl ?_
        refine zg_goto (tgt := 35) dX5_hasData_31 rfl ?_
        refine zg_st (pc' := 35) (L' := [some (.inr 0), some (.inl x1), some (.inl (bI v2)), some (.inl v3)]) (S' := [.inl 1]) (M' := M) rfl rfl rfl rfl ?_
        refine zg_istore_n dX5_hasData_35 (by decide) ?_
        refine zg_st (pc' := 36) (L' := [some (.inr 0), some (.inl x1), some (.inl 1), some (.inl v3)]) (S' := []) (M' := M) rfl rfl rfl rfl ?_
        refine zg_iinc (v := (v3 + 1)) dX5_hasData_36 rfl (by decide) rfl ?_
        refine zg_st (pc' := 39) (L' := [some (.inr 0), some (.inl x1), some (.inl 1), some (.inl (v3 + 1))]) (S' := []) (M' := M) rfl rfl rfl rfl ?_
        refine zg_goto (tgt := 7) dX5_hasData_39 rfl ?_
        refine zg_st (pc' := 7) (L' := [some (.inr 0), some (.inl x1), some (.inl 1), some (.inl (v3 + 1))]) (S' := []) (M' := M) rfl rfl rfl rfl ?_
        refine zg_drop (L' := [some (.inr 0), some (.inl x1), some (.inl 1), some (.inl (v3 + 1))]) ⟨rfl, rfl, rfl, rfl, trivial⟩ ?_
        exact ih true (v3 + 1) (z_ge0 c15 hI) (z_up c15 hm)
      · refine zg_st (pc' := 22) (L' := [some (.inr 0), some (.inl x1), some (.inl (bI v2)), some (.inl v3)]) (S' := []) (M' := M) rfl rfl rfl rfl ?_
        refine zg_aload_n (x := 0) dX5_hasData_22 rfl ?_
        refine zg_iload_n (x := v3) dX5_hasData_23 rfl ?_
        refine zg_cV1 (As := [.inl v3]) (S := []) (v := (f_X5_now v3 M)) dX5_hasData_24 zk_X5_78 (k_X5_now q v3 M (z_hd c15 hx1 hI)) rfl rfl ⟨by decide, by decide⟩ ⟨by decide, by decide⟩ rfl (Nat.le_of_ble_eq_true rfl) ?_
        refine zg_st (pc' := 27) (L' := [some (.inr 0), some (.inl x1), some (.inl (bI v2)), some (.inl v3)]) (S' := [.inl (f_X5_now v3 M)]) (M' := M) rfl rfl rfl rfl ?_
        refine zg_ifz (tgt := 34) dX5_hasData_27 rfl rfl (fun c27 => ?_) (fun c27 => ?_)
        · refine zg_st (pc' := 34) (L' := [some (.inr 0), some (.inl x1), some (.inl (bI v2)), some (.inl v3)]) (S' := []) (M' := M) rfl rfl rfl rfl ?_
          refine zg_iconst (v := 0) dX5_hasData_34 rfl ?_
          refine zg_istore_n dX5_hasData_35 (by decide) ?_
          refine zg_st (pc' := 36) (L' := [some (.inr 0), some (.inl x1), some (.inl 0), some (.inl v3)]) (S' := []) (M' := M) rfl rfl rfl rfl ?_
          refine zg_iinc (v := (v3 + 1)) dX5_hasData_36 rfl (by decide) rfl ?_
          refine zg_st (pc' := 39) (L' := [some (.inr 0), some (.inl x1), some (.inl 0), some (.inl (v3 + 1))]) (S' := []) (M' := M) rfl rfl rfl rfl ?_
          refine zg_goto (tgt := 7) dX5_hasData_39 rfl ?_
          refine zg_st (pc' := 7) (L' := [some (.inr 0), some (.inl x1), some (.inl 0), some (.inl (v3 + 1))]) (S' := []) (M' := M) rfl rfl rfl rfl ?_
          refine zg_drop (L' := [some (.inr 0), some (.inl x1), some (.inl 0), some (.inl (v3 + 1))]) ⟨rfl, rfl, rfl, rfl, trivial⟩ ?_
          exact ih false (v3 + 1) (z_ge0 c15 hI) (z_up c15 hm)
        · refine zg_st (pc' := 30) (L' := [some (.inr 0), some (.inl x1), some (.inl (bI v2)), some (.inl v3)]) (S' := []) (M' := M) rfl rfl rfl rfl ?_
          refine zg_iconst (v := 1) dX5_hasData_30 rfl ?_
          refine zg_goto (tgt := 35) dX5_hasData_31 rfl ?_
          refine zg_st (pc' := 35) (L' := [some (.inr 0), some (.inl x1), some (.inl (bI v2)), some (.inl v3)]) (S' := [.inl 1]) (M' := M) rfl rfl rfl rfl ?_
          refine zg_istore_n dX5_hasData_35 (by decide) ?_
          refine zg_st (pc' := 36) (L' := [some (.inr 0), some (.inl x1), some (.inl 1), some (.inl v3)]) (S' := []) (M' := M) rfl rfl rfl rfl ?_
          refine zg_iinc (v := (v3 + 1)) dX5_hasData_36 rfl (by decide) rfl ?_
          refine zg_st (pc' := 39) (L' := [some (.inr 0), some (.inl x1), some (.inl 1), some (.inl (v3 + 1))]) (S' := []) (M' := M) rfl rfl rfl rfl ?_
          refine zg_goto (tgt := 7) dX5_hasData_39 rfl ?_
          refine zg_st (pc' := 7) (L' := [some (.inr 0), some (.inl x1), some (.inl 1), some (.inl (v3 + 1))]) (S' := []) (M' := M) rfl rfl rfl rfl ?_
          refine zg_drop (L' := [some (.inr 0), some (.inl x1), some (.inl 1), some (.inl (v3 + 1))]) ⟨rfl, rfl, rfl, rfl, trivial⟩ ?_
          exact ih true (v3 + 1) (z_ge0 c15 hI) (z_up c15 hm)
def f_X5_hasData (p1 : Int32) (M : Mem) : Bool :=
  zlet (l_X5_hasData_7 p1 M (((((12 * p1) + 12) : Int32).toInt - ((12 * p1) : Int32).toInt).toNat + 1) false (12 * p1)) (fun s1 =>
  s1.1)
set_option maxRecDepth 100000 in
set_option maxHeartbeats 4000000 in
theorem k_X5_hasData (q : ZQ) (p1 : Int32) (M : Mem) (hp : 0 ≤ p1.toInt ∧ p1.toInt < 4) : Zc (zgM q) mX5_hasData 0 0 [.inr 0, .inl p1] M (wB M (f_X5_hasData p1 M)) := by
  refine Zc.of (by decide) zi_X5_hasData.1 (Nat.le_of_ble_eq_true rfl) rfl ?_
  show Zg _ _ _ _ _ _ (zlet (f_X5_hasData p1 M) (wB M)) _ _ _ _
  unfold f_X5_hasData
  refine zg_iconst (v := 0) dX5_hasData_0 rfl ?_
  refine zg_istore_n dX5_hasData_1 (by decide) ?_
  refine zg_st (pc' := 2) (L' := [some (.inr 0), some (.inl p1), some (.inl 0), none]) (S' := []) (M' := M) rfl rfl rfl rfl ?_
  refine zg_bipush (v := 12) dX5_hasData_2 rfl ?_
  refine zg_iload_n (x := p1) dX5_hasData_4 rfl ?_
  refine zg_imul dX5_hasData_5 ?_
  refine zg_istore_n dX5_hasData_6 (by decide) ?_
  refine zg_st (pc' := 7) (L' := [some (.inr 0), some (.inl p1), some (.inl 0), some (.inl (12 * p1))]) (S' := []) (M' := M) rfl rfl rfl rfl ?_
  refine zg_asc ?_
  refine zg_drop (L' := [some (.inr 0), some (.inl p1), some (.inl 0), some (.inl (12 * p1))]) ⟨rfl, rfl, rfl, rfl, trivial⟩ ?_
  refine kl_X5_hasData_7 q p1 M hp (fun s1 hI_s1 => ?_) (((((12 * p1) + 12) : Int32).toInt - ((12 * p1) : Int32).toInt).toNat + 1) false (12 * p1) (by rw [z12' hp]; omega) (Nat.lt_succ_self _)
  try dsimp only [Sum.elim_inr]
  refine zg_st (pc' := 42) (L' := [some (.inr 0), some (.inl p1), some (.inl (bI s1.1)), some (.inl s1.2)]) (S' := []) (M' := M) rfl rfl rfl rfl ?_
  refine zg_iload_n (x := bI s1.1) dX5_hasData_42 rfl ?_
  exact zg_iret dX5_hasData_43 rfl (bI_nar _) ⟨by decide, by decide⟩ rfl
theorem dX5_isChanged_0 : decode cX5_isChanged 0 = .ok (.iconst 0, 1) := by decide +kernel
theorem dX5_isChanged_1 : decode cX5_isChanged 1 = .ok (.istore_n 2, 1) := by decide +kernel
theorem dX5_isChanged_2 : decode cX5_isChanged 2 = .ok (.bipush 12, 2) := by decide +kernel
theorem dX5_isChanged_4 : decode cX5_isChanged 4 = .ok (.iload_n 1, 1) := by decide +kernel
theorem dX5_isChanged_5 : decode cX5_isChanged 5 = .ok (.imul, 1) := by decide +kernel
theorem dX5_isChanged_6 : decode cX5_isChanged 6 = .ok (.istore_n 3, 1) := by decide +kernel
theorem dX5_isChanged_7 : decode cX5_isChanged 7 = .ok (.iload_n 3, 1) := by decide +kernel
theorem dX5_isChanged_8 : decode cX5_isChanged 8 = .ok (.bipush 12, 2) := by decide +kernel
theorem dX5_isChanged_10 : decode cX5_isChanged 10 = .ok (.iload_n 1, 1) := by decide +kernel
theorem dX5_isChanged_11 : decode cX5_isChanged 11 = .ok (.imul, 1) := by decide +kernel
theorem dX5_isChanged_12 : decode cX5_isChanged 12 = .ok (.bipush 12, 2) := by decide +kernel
theorem dX5_isChanged_14 : decode cX5_isChanged 14 = .ok (.iadd, 1) := by decide +kernel
theorem dX5_isChanged_15 : decode cX5_isChanged 15 = .ok (.if_icmp .ge 29, 3) := by decide +kernel
theorem dX5_isChanged_18 : decode cX5_isChanged 18 = .ok (.iload_n 2, 1) := by decide +kernel
theorem dX5_isChanged_19 : decode cX5_isChanged 19 = .ok (.ifCond .ne 13, 3) := by decide +kernel
theorem dX5_isChanged_22 : decode cX5_isChanged 22 = .ok (.aload_n 0, 1) := by decide +kernel
theorem dX5_isChanged_23 : decode cX5_isChanged 23 = .ok (.getfield 20, 3) := by decide +kernel
theorem dX5_isChanged_26 : decode cX5_isChanged 26 = .ok (.iload_n 3, 1) := by decide +kernel
theorem dX5_isChanged_27 : decode cX5_isChanged 27 = .ok (.iaload, 1) := by decide +kernel
theorem dX5_isChanged_28 : decode cX5_isChanged 28 = .ok (.iconst (-1), 1) := by decide +kernel
theorem dX5_isChanged_29 : decode cX5_isChanged 29 = .ok (.if_icmp .eq 7, 3) := by decide +kernel
theorem dX5_isChanged_32 : decode cX5_isChanged 32 = .ok (.iconst 1, 1) := by decide +kernel
theorem dX5_isChanged_33 : decode cX5_isChanged 33 = .ok (.goto 4, 3) := by decide +kernel
theorem dX5_isChanged_36 : decode cX5_isChanged 36 = .ok (.iconst 0, 1) := by decide +kernel
theorem dX5_isChanged_37 : decode cX5_isChanged 37 = .ok (.istore_n 2, 1) := by decide +kernel
theorem dX5_isChanged_38 : decode cX5_isChanged 38 = .ok (.iinc 3 1, 3) := by decide +kernel
theorem dX5_isChanged_41 : decode cX5_isChanged 41 = .ok (.goto (-34), 3) := by decide +kernel
theorem dX5_isChanged_44 : decode cX5_isChanged 44 = .ok (.iload_n 2, 1) := by decide +kernel
theorem dX5_isChanged_45 : decode cX5_isChanged 45 = .ok (.ireturn, 1) := by decide +kernel
def b_X5_isChanged_7 (x1 : Int32) (M : Mem) (rec : Bool → Int32 → Bool × Int32) (v2 : Bool) (v3 : Int32) : Bool × Int32 :=
  if ((12 * x1) + 12) ≤ v3 then (v2, v3)
  else if v2 then rec true (v3 + 1)
  else if (M 3 v3.toNatClampNeg) = (-1) then rec false (v3 + 1)
  else rec true (v3 + 1)
def l_X5_isChanged_7 (x1 : Int32) (M : Mem) : Nat → Bool → Int32 → Bool × Int32
  | 0, v2, v3 => (v2, v3)
  | n + 1, v2, v3 => b_X5_isChanged_7 x1 M (l_X5_isChanged_7 x1 M n) v2 v3
set_option maxRecDepth 100000 in
set_option maxHeartbeats 4000000 in
theorem kl_X5_isChanged_7 (q : ZQ) (x1 : Int32) (M : Mem) (hx1 : 0 ≤ x1.toInt ∧ x1.toInt < 4) {K : Bool × Int32 → ZR} (hx : ∀ e : Bool × Int32, (0 : Int) ≤ e.2.toInt → Zg (zgM q) mX5_isChanged 0 0 0 0 (K e) 44 [some (.inr 0), some (.inl x1), some (.inl (bI e.1)), some (.inl e.2)] [] M) :
    ∀ (n : Nat) (v2 : Bool) (v3 : Int32), (0 : Int) ≤ v3.toInt → ((((12 * x1) + 12) : Int32).toInt - (v3 : Int32).toInt).toNat < n → Zg (zgM q) mX5_isChanged 0 0 0 0 (zlet (l_X5_isChanged_7 x1 M n v2 v3) K) 7 [some (.inr 0), some (.inl x1), some (.inl (bI v2)), some (.inl v3)] [] M := by
  intro n
  induction n with
  | zero => intro v2 v3 hI hm; exact absurd hm (Nat.not_lt_zero _)
  | succ n ih =>
    intro v2 v3 hI hm
    show Zg _ _ _ _ _ _ (zlet (b_X5_isChanged_7 x1 M (l_X5_isChanged_7 x1 M n) v2 v3) K) _ _ _ _
    unfold b_X5_isChanged_7
    refine zg_iload_n (x := v3) dX5_isChanged_7 rfl ?_
    refine zg_bipush (v := 12) dX5_isChanged_8 rfl ?_
    refine zg_iload_n (x := x1) dX5_isChanged_10 rfl ?_
    refine zg_imul dX5_isChanged_11 ?_
    refine zg_bipush (v := 12) dX5_isChanged_12 rfl ?_
    refine zg_iadd dX5_isChanged_14 ?_
    refine zg_icmpz (tgt := 44) dX5_isChanged_15 rfl rfl (fun c15 => ?_) (fun c15 => ?_)
    · refine zg_st (pc' := 44) (L' := [some (.inr 0), some (.inl x1), some (.inl (bI v2)), some (.inl v3)]) (S' := []) (M' := M) rfl rfl rfl rfl ?_
      refine zg_drop (L' := [some (.inr 0), some (.inl x1), some (.inl (bI v2)), some (.inl v3)]) ⟨rfl, rfl, rfl, rfl, trivial⟩ ?_
      exact hx (v2, v3) hI
    · refine zg_st (pc' := 18) (L' := [some (.inr 0), some (.inl x1), some (.inl (bI v2)), some (.inl v3)]) (S' := []) (M' := M) rfl rfl rfl rfl ?_
      refine zg_iload_n (x := bI v2) dX5_isChanged_18 rfl ?_
      refine zg_ifbn (tgt := 32) dX5_isChanged_19 rfl (fun c19 => ?_) (fun c19 => ?_)
      · refine zg_st (pc' := 32) (L' := [some (.inr 0), some (.inl x1), some (.inl (bI v2)), some (.inl v3)]) (S' := []) (M' := M) rfl rfl rfl rfl ?_
        refine zg_iconst (v := 1) dX5_isChanged_32 rfl ?_
        refine zg_goto (tgt := 37) dX5_isChanged_33 rfl ?_
        refine zg_st (pc' := 37) (L' := [some (.inr 0), some (.inl x1), some (.inl (bI v2)), some (.inl v3)]) (S' := [.inl 1]) (M' := M) rfl rfl rfl rfl ?_
        refine zg_istore_n dX5_isChanged_37 (by decide) ?_
        refine zg_st (pc' := 38) (L' := [some (.inr 0), some (.inl x1), some (.inl 1), some (.inl v3)]) (S' := []) (M' := M) rfl rfl rfl rfl ?_
        refine zg_iinc (v := (v3 + 1)) dX5_isChanged_38 rfl (by decide) rfl ?_
        refine zg_st (pc' := 41) (L' := [some (.inr 0), some (.inl x1), some (.inl 1), some (.inl (v3 + 1))]) (S' := []) (M' := M) rfl rfl rfl rfl ?_
        refine zg_goto (tgt := 7) dX5_isChanged_41 rfl ?_
        refine zg_st (pc' := 7) (L' := [some (.inr 0), some (.inl x1), some (.inl 1), some (.inl (v3 + 1))]) (S' := []) (M' := M) rfl rfl rfl rfl ?_
        refine zg_drop (L' := [some (.inr 0), some (.inl x1), some (.inl 1), some (.inl (v3 + 1))]) ⟨rfl, rfl, rfl, rfl, trivial⟩ ?_
        exact ih true (v3 + 1) (z_ge0 c15 hI) (z_up c15 hm)
      · refine zg_st (pc' := 22) (L' := [some (.inr 0), some (.inl x1), some (.inl (bI v2)), some (.inl v3)]) (S' := []) (M' := M) rfl rfl rfl rfl ?_
        refine zg_aload_n (x := 0) dX5_isChanged_22 rfl ?_
        refine zg_getf (v := .inr 3) dX5_isChanged_23 zf_X5_20 rfl rfl rfl ?_
        refine zg_iload_n (x := v3) dX5_isChanged_26 rfl ?_
        refine zg_iald dX5_isChanged_27 rfl (z_hd c15 hx1 hI) ?_
        refine zg_iconst (v := (-1)) dX5_isChanged_28 rfl ?_
        refine zg_icmpz (tgt := 36) dX5_isChanged_29 rfl rfl (fun c29 => ?_) (fun c29 => ?_)
        · refine zg_st (pc' := 36) (L' := [some (.inr 0), some (.inl x1), some (.inl (bI v2)), some (.inl v3)]) (S' := []) (M' := M) rfl rfl rfl rfl ?_
          refine zg_iconst (v := 0) dX5_isChanged_36 rfl ?_
          refine zg_istore_n dX5_isChanged_37 (by decide) ?_
          refine zg_st (pc' := 38) (L' := [some (.inr 0), some (.inl x1), some (.inl 0), some (.inl v3)]) (S' := []) (M' := M) rfl rfl rfl rfl ?_
          refine zg_iinc (v := (v3 + 1)) dX5_isChanged_38 rfl (by decide) rfl ?_
          refine zg_st (pc' := 41) (L' := [some (.inr 0), some (.inl x1), some (.inl 0), some (.inl (v3 + 1))]) (S' := []) (M' := M) rfl rfl rfl rfl ?_
          refine zg_goto (tgt := 7) dX5_isChanged_41 rfl ?_
          refine zg_st (pc' := 7) (L' := [some (.inr 0), some (.inl x1), some (.inl 0), some (.inl (v3 + 1))]) (S' := []) (M' := M) rfl rfl rfl rfl ?_
          refine zg_drop (L' := [some (.inr 0), some (.inl x1), some (.inl 0), some (.inl (v3 + 1))]) ⟨rfl, rfl, rfl, rfl, trivial⟩ ?_
          exact ih false (v3 + 1) (z_ge0 c15 hI) (z_up c15 hm)
        · refine zg_st (pc' := 32) (L' := [some (.inr 0), some (.inl x1), some (.inl (bI v2)), some (.inl v3)]) (S' := []) (M' := M) rfl rfl rfl rfl ?_
          refine zg_iconst (v := 1) dX5_isChanged_32 rfl ?_
          refine zg_goto (tgt := 37) dX5_isChanged_33 rfl ?_
          refine zg_st (pc' := 37) (L' := [some (.inr 0), some (.inl x1), some (.inl (bI v2)), some (.inl v3)]) (S' := [.inl 1]) (M' := M) rfl rfl rfl rfl ?_
          refine zg_istore_n dX5_isChanged_37 (by decide) ?_
          refine zg_st (pc' := 38) (L' := [some (.inr 0), some (.inl x1), some (.inl 1), some (.inl v3)]) (S' := []) (M' := M) rfl rfl rfl rfl ?_
          refine zg_iinc (v := (v3 + 1)) dX5_isChanged_38 rfl (by decide) rfl ?_
          refine zg_st (pc' := 41) (L' := [some (.inr 0), some (.inl x1), some (.inl 1), some (.inl (v3 + 1))]) (S' := []) (M' := M) rfl rfl rfl rfl ?_
          refine zg_goto (tgt := 7) dX5_isChanged_41 rfl ?_
          refine zg_st (pc' := 7) (L' := [some (.inr 0), some (.inl x1), some (.inl 1), some (.inl (v3 + 1))]) (S' := []) (M' := M) rfl rfl rfl rfl ?_
          refine zg_drop (L' := [some (.inr 0), some (.inl x1), some (.inl 1), some (.inl (v3 + 1))]) ⟨rfl, rfl, rfl, rfl, trivial⟩ ?_
          exact ih true (v3 + 1) (z_ge0 c15 hI) (z_up c15 hm)
def f_X5_isChanged (p1 : Int32) (M : Mem) : Bool :=
  zlet (l_X5_isChanged_7 p1 M (((((12 * p1) + 12) : Int32).toInt - ((12 * p1) : Int32).toInt).toNat + 1) false (12 * p1)) (fun s1 =>
  s1.1)
set_option maxRecDepth 100000 in
set_option maxHeartbeats 4000000 in
theorem k_X5_isChanged (q : ZQ) (p1 : Int32) (M : Mem) (hp : 0 ≤ p1.toInt ∧ p1.toInt < 4) : Zc (zgM q) mX5_isChanged 0 0 [.inr 0, .inl p1] M (wB M (f_X5_isChanged p1 M)) := by
  refine Zc.of (by decide) zi_X5_isChanged.1 (Nat.le_of_ble_eq_true rfl) rfl ?_
  show Zg _ _ _ _ _ _ (zlet (f_X5_isChanged p1 M) (wB M)) _ _ _ _
  unfold f_X5_isChanged
  refine zg_iconst (v := 0) dX5_isChanged_0 rfl ?_
  refine zg_istore_n dX5_isChanged_1 (by decide) ?_
  refine zg_st (pc' := 2) (L' := [some (.inr 0), some (.inl p1), some (.inl 0), none]) (S' := []) (M' := M) rfl rfl rfl rfl ?_
  refine zg_bipush (v := 12) dX5_isChanged_2 rfl ?_
  refine zg_iload_n (x := p1) dX5_isChanged_4 rfl ?_
  refine zg_imul dX5_isChanged_5 ?_
  refine zg_istore_n dX5_isChanged_6 (by decide) ?_
  refine zg_st (pc' := 7) (L' := [some (.inr 0), some (.inl p1), some (.inl 0), some (.inl (12 * p1))]) (S' := []) (M' := M) rfl rfl rfl rfl ?_
  refine zg_asc ?_
  refine zg_drop (L' := [some (.inr 0), some (.inl p1), some (.inl 0), some (.inl (12 * p1))]) ⟨rfl, rfl, rfl, rfl, trivial⟩ ?_
  refine kl_X5_isChanged_7 q p1 M hp (fun s1 hI_s1 => ?_) (((((12 * p1) + 12) : Int32).toInt - ((12 * p1) : Int32).toInt).toNat + 1) false (12 * p1) (by rw [z12' hp]; omega) (Nat.lt_succ_self _)
  try dsimp only [Sum.elim_inr]
  refine zg_st (pc' := 44) (L' := [some (.inr 0), some (.inl p1), some (.inl (bI s1.1)), some (.inl s1.2)]) (S' := []) (M' := M) rfl rfl rfl rfl ?_
  refine zg_iload_n (x := bI s1.1) dX5_isChanged_44 rfl ?_
  exact zg_iret dX5_isChanged_45 rfl (bI_nar _) ⟨by decide, by decide⟩ rfl
theorem dX5_countFree_0 : decode cX5_countFree 0 = .ok (.iconst 0, 1) := by decide +kernel
theorem dX5_countFree_1 : decode cX5_countFree 1 = .ok (.istore_n 3, 1) := by decide +kernel
theorem dX5_countFree_2 : decode cX5_countFree 2 = .ok (.bipush 40, 2) := by decide +kernel
theorem dX5_countFree_4 : decode cX5_countFree 4 = .ok (.iload_n 1, 1) := by decide +kernel
theorem dX5_countFree_5 : decode cX5_countFree 5 = .ok (.imul, 1) := by decide +kernel
theorem dX5_countFree_6 : decode cX5_countFree 6 = .ok (.istore 4, 2) := by decide +kernel
theorem dX5_countFree_8 : decode cX5_countFree 8 = .ok (.iload 4, 2) := by decide +kernel
theorem dX5_countFree_10 : decode cX5_countFree 10 = .ok (.bipush 40, 2) := by decide +kernel
theorem dX5_countFree_12 : decode cX5_countFree 12 = .ok (.iload_n 1, 1) := by decide +kernel
theorem dX5_countFree_13 : decode cX5_countFree 13 = .ok (.imul, 1) := by decide +kernel
theorem dX5_countFree_14 : decode cX5_countFree 14 = .ok (.bipush 40, 2) := by decide +kernel
theorem dX5_countFree_16 : decode cX5_countFree 16 = .ok (.iadd, 1) := by decide +kernel
theorem dX5_countFree_17 : decode cX5_countFree 17 = .ok (.if_icmp .ge 24, 3) := by decide +kernel
theorem dX5_countFree_20 : decode cX5_countFree 20 = .ok (.iload_n 3, 1) := by decide +kernel
theorem dX5_countFree_21 : decode cX5_countFree 21 = .ok (.aload_n 2, 1) := by decide +kernel
theorem dX5_countFree_22 : decode cX5_countFree 22 = .ok (.iload 4, 2) := by decide +kernel
theorem dX5_countFree_24 : decode cX5_countFree 24 = .ok (.baload, 1) := by decide +kernel
theorem dX5_countFree_25 : decode cX5_countFree 25 = .ok (.ifCond .eq 7, 3) := by decide +kernel
theorem dX5_countFree_28 : decode cX5_countFree 28 = .ok (.iconst 0, 1) := by decide +kernel
theorem dX5_countFree_29 : decode cX5_countFree 29 = .ok (.goto 4, 3) := by decide +kernel
theorem dX5_countFree_32 : decode cX5_countFree 32 = .ok (.iconst 1, 1) := by decide +kernel
theorem dX5_countFree_33 : decode cX5_countFree 33 = .ok (.iadd, 1) := by decide +kernel
theorem dX5_countFree_34 : decode cX5_countFree 34 = .ok (.istore_n 3, 1) := by decide +kernel
theorem dX5_countFree_35 : decode cX5_countFree 35 = .ok (.iinc 4 1, 3) := by decide +kernel
theorem dX5_countFree_38 : decode cX5_countFree 38 = .ok (.goto (-30), 3) := by decide +kernel
theorem dX5_countFree_41 : decode cX5_countFree 41 = .ok (.iload_n 3, 1) := by decide +kernel
theorem dX5_countFree_42 : decode cX5_countFree 42 = .ok (.ireturn, 1) := by decide +kernel
def b_X5_countFree_12_8 (x1 : Int32) (M : Mem) (rec : Int32 → Int32 → Int32 × Int32) (v3 : Int32) (v4 : Int32) : Int32 × Int32 :=
  if ((40 * x1) + 40) ≤ v4 then (v3, v4)
  else if (M 12 v4.toNatClampNeg) = 0 then rec (v3 + 1) (v4 + 1)
  else rec (v3 + 0) (v4 + 1)
def l_X5_countFree_12_8 (x1 : Int32) (M : Mem) : Nat → Int32 → Int32 → Int32 × Int32
  | 0, v3, v4 => (v3, v4)
  | n + 1, v3, v4 => b_X5_countFree_12_8 x1 M (l_X5_countFree_12_8 x1 M n) v3 v4
set_option maxRecDepth 100000 in
set_option maxHeartbeats 4000000 in
theorem kl_X5_countFree_12_8 (q : ZQ) (x1 : Int32) (M : Mem) (hx1 : 0 ≤ x1.toInt ∧ x1.toInt < 3) {K : Int32 × Int32 → ZR} (hx : ∀ e : Int32 × Int32, (0 : Int) ≤ e.2.toInt → Zg (zgM q) mX5_countFree 0 0 0 0 (K e) 41 [some (.inr 0), some (.inl x1), some (.inr 12), some (.inl e.1), some (.inl e.2)] [] M) :
    ∀ (n : Nat) (v3 : Int32) (v4 : Int32), (0 : Int) ≤ v4.toInt → ((((40 * x1) + 40) : Int32).toInt - (v4 : Int32).toInt).toNat < n → Zg (zgM q) mX5_countFree 0 0 0 0 (zlet (l_X5_countFree_12_8 x1 M n v3 v4) K) 8 [some (.inr 0), some (.inl x1), some (.inr 12), some (.inl v3), some (.inl v4)] [] M := by
  intro n
  induction n with
  | zero => intro v3 v4 hI hm; exact absurd hm (Nat.not_lt_zero _)
  | succ n ih =>
    intro v3 v4 hI hm
    show Zg _ _ _ _ _ _ (zlet (b_X5_countFree_12_8 x1 M (l_X5_countFree_12_8 x1 M n) v3 v4) K) _ _ _ _
    unfold b_X5_countFree_12_8
    refine zg_iload (x := v4) dX5_countFree_8 rfl ?_
    refine zg_bipush (v := 40) dX5_countFree_10 rfl ?_
    refine zg_iload_n (x := x1) dX5_countFree_12 rfl ?_
    refine zg_imul dX5_countFree_13 ?_
    refine zg_bipush (v := 40) dX5_countFree_14 rfl ?_
    refine zg_iadd dX5_countFree_16 ?_
    refine zg_icmpz (tgt := 41) dX5_countFree_17 rfl rfl (fun c17 => ?_) (fun c17 => ?_)
    · refine zg_st (pc' := 41) (L' := [some (.inr 0), some (.inl x1), some (.inr 12), some (.inl v3), some (.inl v4)]) (S' := []) (M' := M) rfl rfl rfl rfl ?_
      refine zg_drop (L' := [some (.inr 0), some (.inl x1), some (.inr 12), some (.inl v3), some (.inl v4)]) ⟨rfl, rfl, rfl, rfl, rfl, trivial⟩ ?_
      exact hx (v3, v4) hI
    · refine zg_st (pc' := 20) (L' := [some (.inr 0), some (.inl x1), some (.inr 12), some (.inl v3), some (.inl v4)]) (S' := []) (M' := M) rfl rfl rfl rfl ?_
      refine zg_iload_n (x := v3) dX5_countFree_20 rfl ?_
      refine zg_aload_n (x := 12) dX5_countFree_21 rfl ?_
      refine zg_iload (x := v4) dX5_countFree_22 rfl ?_
      refine zg_zald dX5_countFree_24 rfl (z_cf c17 hx1 hI) ?_
      refine zg_ifz (tgt := 32) dX5_countFree_25 rfl rfl (fun c25 => ?_) (fun c25 => ?_)
      · refine zg_st (pc' := 32) (L' := [some (.inr 0), some (.inl x1), some (.inr 12), some (.inl v3), some (.inl v4)]) (S' := [.inl v3]) (M' := M) rfl rfl rfl rfl ?_
        refine zg_iconst (v := 1) dX5_countFree_32 rfl ?_
        refine zg_iadd dX5_countFree_33 ?_
        refine zg_istore_n dX5_countFree_34 (by decide) ?_
        refine zg_st (pc' := 35) (L' := [some (.inr 0), some (.inl x1), some (.inr 12), some (.inl (v3 + 1)), some (.inl v4)]) (S' := []) (M' := M) rfl rfl rfl rfl ?_
        refine zg_iinc (v := (v4 + 1)) dX5_countFree_35 rfl (by decide) rfl ?_
        refine zg_st (pc' := 38) (L' := [some (.inr 0), some (.inl x1), some (.inr 12), some (.inl (v3 + 1)), some (.inl (v4 + 1))]) (S' := []) (M' := M) rfl rfl rfl rfl ?_
        refine zg_goto (tgt := 8) dX5_countFree_38 rfl ?_
        refine zg_st (pc' := 8) (L' := [some (.inr 0), some (.inl x1), some (.inr 12), some (.inl (v3 + 1)), some (.inl (v4 + 1))]) (S' := []) (M' := M) rfl rfl rfl rfl ?_
        refine zg_drop (L' := [some (.inr 0), some (.inl x1), some (.inr 12), some (.inl (v3 + 1)), some (.inl (v4 + 1))]) ⟨rfl, rfl, rfl, rfl, rfl, trivial⟩ ?_
        exact ih (v3 + 1) (v4 + 1) (z_ge0 c17 hI) (z_up c17 hm)
      · refine zg_st (pc' := 28) (L' := [some (.inr 0), some (.inl x1), some (.inr 12), some (.inl v3), some (.inl v4)]) (S' := [.inl v3]) (M' := M) rfl rfl rfl rfl ?_
        refine zg_iconst (v := 0) dX5_countFree_28 rfl ?_
        refine zg_goto (tgt := 33) dX5_countFree_29 rfl ?_
        refine zg_st (pc' := 33) (L' := [some (.inr 0), some (.inl x1), some (.inr 12), some (.inl v3), some (.inl v4)]) (S' := [.inl 0, .inl v3]) (M' := M) rfl rfl rfl rfl ?_
        refine zg_iadd dX5_countFree_33 ?_
        refine zg_istore_n dX5_countFree_34 (by decide) ?_
        refine zg_st (pc' := 35) (L' := [some (.inr 0), some (.inl x1), some (.inr 12), some (.inl (v3 + 0)), some (.inl v4)]) (S' := []) (M' := M) rfl rfl rfl rfl ?_
        refine zg_iinc (v := (v4 + 1)) dX5_countFree_35 rfl (by decide) rfl ?_
        refine zg_st (pc' := 38) (L' := [some (.inr 0), some (.inl x1), some (.inr 12), some (.inl (v3 + 0)), some (.inl (v4 + 1))]) (S' := []) (M' := M) rfl rfl rfl rfl ?_
        refine zg_goto (tgt := 8) dX5_countFree_38 rfl ?_
        refine zg_st (pc' := 8) (L' := [some (.inr 0), some (.inl x1), some (.inr 12), some (.inl (v3 + 0)), some (.inl (v4 + 1))]) (S' := []) (M' := M) rfl rfl rfl rfl ?_
        refine zg_drop (L' := [some (.inr 0), some (.inl x1), some (.inr 12), some (.inl (v3 + 0)), some (.inl (v4 + 1))]) ⟨rfl, rfl, rfl, rfl, rfl, trivial⟩ ?_
        exact ih (v3 + 0) (v4 + 1) (z_ge0 c17 hI) (z_up c17 hm)
def f_X5_countFree_12 (p1 : Int32) (M : Mem) : Int32 :=
  zlet (l_X5_countFree_12_8 p1 M (((((40 * p1) + 40) : Int32).toInt - ((40 * p1) : Int32).toInt).toNat + 1) 0 (40 * p1)) (fun s1 =>
  s1.1)
set_option maxRecDepth 100000 in
set_option maxHeartbeats 4000000 in
theorem k_X5_countFree_12 (q : ZQ) (p1 : Int32) (M : Mem) (hp : 0 ≤ p1.toInt ∧ p1.toInt < 3) : Zc (zgM q) mX5_countFree 0 0 [.inr 0, .inl p1, .inr 12] M (wI M (f_X5_countFree_12 p1 M)) := by
  refine Zc.of (by decide) zi_X5_countFree.1 (Nat.le_of_ble_eq_true rfl) rfl ?_
  show Zg _ _ _ _ _ _ (zlet (f_X5_countFree_12 p1 M) (wI M)) _ _ _ _
  unfold f_X5_countFree_12
  refine zg_iconst (v := 0) dX5_countFree_0 rfl ?_
  refine zg_istore_n dX5_countFree_1 (by decide) ?_
  refine zg_st (pc' := 2) (L' := [some (.inr 0), some (.inl p1), some (.inr 12), some (.inl 0), none]) (S' := []) (M' := M) rfl rfl rfl rfl ?_
  refine zg_bipush (v := 40) dX5_countFree_2 rfl ?_
  refine zg_iload_n (x := p1) dX5_countFree_4 rfl ?_
  refine zg_imul dX5_countFree_5 ?_
  refine zg_istore dX5_countFree_6 (by decide) ?_
  refine zg_st (pc' := 8) (L' := [some (.inr 0), some (.inl p1), some (.inr 12), some (.inl 0), some (.inl (40 * p1))]) (S' := []) (M' := M) rfl rfl rfl rfl ?_
  refine zg_asc ?_
  refine zg_drop (L' := [some (.inr 0), some (.inl p1), some (.inr 12), some (.inl 0), some (.inl (40 * p1))]) ⟨rfl, rfl, rfl, rfl, rfl, trivial⟩ ?_
  refine kl_X5_countFree_12_8 q p1 M hp (fun s1 hI_s1 => ?_) (((((40 * p1) + 40) : Int32).toInt - ((40 * p1) : Int32).toInt).toNat + 1) 0 (40 * p1) (by rw [z40' hp]; omega) (Nat.lt_succ_self _)
  try dsimp only [Sum.elim_inr]
  refine zg_st (pc' := 41) (L' := [some (.inr 0), some (.inl p1), some (.inr 12), some (.inl s1.1), some (.inl s1.2)]) (S' := []) (M' := M) rfl rfl rfl rfl ?_
  refine zg_iload_n (x := s1.1) dX5_countFree_41 rfl ?_
  exact zg_iret dX5_countFree_42 rfl rfl ⟨by decide, by decide⟩ rfl
theorem dX5_take_0 : decode cX5_take 0 = .ok (.iconst (-1), 1) := by decide +kernel
theorem dX5_take_1 : decode cX5_take 1 = .ok (.istore_n 2, 1) := by decide +kernel
theorem dX5_take_2 : decode cX5_take 2 = .ok (.iconst 0, 1) := by decide +kernel
theorem dX5_take_3 : decode cX5_take 3 = .ok (.istore_n 3, 1) := by decide +kernel
theorem dX5_take_4 : decode cX5_take 4 = .ok (.iload_n 3, 1) := by decide +kernel
theorem dX5_take_5 : decode cX5_take 5 = .ok (.iconst 3, 1) := by decide +kernel
theorem dX5_take_6 : decode cX5_take 6 = .ok (.if_icmp .ge 42, 3) := by decide +kernel
theorem dX5_take_9 : decode cX5_take 9 = .ok (.iload_n 3, 1) := by decide +kernel
theorem dX5_take_10 : decode cX5_take 10 = .ok (.iload_n 1, 1) := by decide +kernel
theorem dX5_take_11 : decode cX5_take 11 = .ok (.if_icmp .eq 31, 3) := by decide +kernel
theorem dX5_take_14 : decode cX5_take 14 = .ok (.iload_n 2, 1) := by decide +kernel
theorem dX5_take_15 : decode cX5_take 15 = .ok (.iconst (-1), 1) := by decide +kernel
theorem dX5_take_16 : decode cX5_take 16 = .ok (.if_icmp .eq 24, 3) := by decide +kernel
theorem dX5_take_19 : decode cX5_take 19 = .ok (.aload_n 0, 1) := by decide +kernel
theorem dX5_take_20 : decode cX5_take 20 = .ok (.iload_n 3, 1) := by decide +kernel
theorem dX5_take_21 : decode cX5_take 21 = .ok (.aload_n 0, 1) := by decide +kernel
theorem dX5_take_22 : decode cX5_take 22 = .ok (.getfield 48, 3) := by decide +kernel
theorem dX5_take_25 : decode cX5_take 25 = .ok (.invokevirtual 108, 3) := by decide +kernel
theorem dX5_take_28 : decode cX5_take 28 = .ok (.aload_n 0, 1) := by decide +kernel
theorem dX5_take_29 : decode cX5_take 29 = .ok (.iload_n 2, 1) := by decide +kernel
theorem dX5_take_30 : decode cX5_take 30 = .ok (.aload_n 0, 1) := by decide +kernel
theorem dX5_take_31 : decode cX5_take 31 = .ok (.getfield 48, 3) := by decide +kernel
theorem dX5_take_34 : decode cX5_take 34 = .ok (.invokevirtual 108, 3) := by decide +kernel
theorem dX5_take_37 : decode cX5_take 37 = .ok (.if_icmp .le 5, 3) := by decide +kernel
theorem dX5_take_40 : decode cX5_take 40 = .ok (.iload_n 3, 1) := by decide +kernel
theorem dX5_take_41 : decode cX5_take 41 = .ok (.istore_n 2, 1) := by decide +kernel
theorem dX5_take_42 : decode cX5_take 42 = .ok (.iinc 3 1, 3) := by decide +kernel
theorem dX5_take_45 : decode cX5_take 45 = .ok (.goto (-41), 3) := by decide +kernel
theorem dX5_take_48 : decode cX5_take 48 = .ok (.iconst (-1), 1) := by decide +kernel
theorem dX5_take_49 : decode cX5_take 49 = .ok (.istore_n 3, 1) := by decide +kernel
theorem dX5_take_50 : decode cX5_take 50 = .ok (.bipush 40, 2) := by decide +kernel
theorem dX5_take_52 : decode cX5_take 52 = .ok (.iload_n 2, 1) := by decide +kernel
theorem dX5_take_53 : decode cX5_take 53 = .ok (.imul, 1) := by decide +kernel
theorem dX5_take_54 : decode cX5_take 54 = .ok (.istore 4, 2) := by decide +kernel
theorem dX5_take_56 : decode cX5_take 56 = .ok (.iload 4, 2) := by decide +kernel
theorem dX5_take_58 : decode cX5_take 58 = .ok (.bipush 40, 2) := by decide +kernel
theorem dX5_take_60 : decode cX5_take 60 = .ok (.iload_n 2, 1) := by decide +kernel
theorem dX5_take_61 : decode cX5_take 61 = .ok (.imul, 1) := by decide +kernel
theorem dX5_take_62 : decode cX5_take 62 = .ok (.bipush 40, 2) := by decide +kernel
theorem dX5_take_64 : decode cX5_take 64 = .ok (.iadd, 1) := by decide +kernel
theorem dX5_take_65 : decode cX5_take 65 = .ok (.if_icmp .ge 31, 3) := by decide +kernel
theorem dX5_take_68 : decode cX5_take 68 = .ok (.iload_n 3, 1) := by decide +kernel
theorem dX5_take_69 : decode cX5_take 69 = .ok (.iconst (-1), 1) := by decide +kernel
theorem dX5_take_70 : decode cX5_take 70 = .ok (.if_icmp .ne 26, 3) := by decide +kernel
theorem dX5_take_73 : decode cX5_take 73 = .ok (.aload_n 0, 1) := by decide +kernel
theorem dX5_take_74 : decode cX5_take 74 = .ok (.getfield 48, 3) := by decide +kernel
theorem dX5_take_77 : decode cX5_take 77 = .ok (.iload 4, 2) := by decide +kernel
theorem dX5_take_79 : decode cX5_take 79 = .ok (.baload, 1) := by decide +kernel
theorem dX5_take_80 : decode cX5_take 80 = .ok (.ifCond .eq 7, 3) := by decide +kernel
theorem dX5_take_83 : decode cX5_take 83 = .ok (.iconst (-1), 1) := by decide +kernel
theorem dX5_take_84 : decode cX5_take 84 = .ok (.goto 5, 3) := by decide +kernel
theorem dX5_take_87 : decode cX5_take 87 = .ok (.iload 4, 2) := by decide +kernel
theorem dX5_take_89 : decode cX5_take 89 = .ok (.istore_n 3, 1) := by decide +kernel
theorem dX5_take_90 : decode cX5_take 90 = .ok (.iinc 4 1, 3) := by decide +kernel
theorem dX5_take_93 : decode cX5_take 93 = .ok (.goto (-37), 3) := by decide +kernel
theorem dX5_take_96 : decode cX5_take 96 = .ok (.iload_n 3, 1) := by decide +kernel
theorem dX5_take_97 : decode cX5_take 97 = .ok (.iconst (-1), 1) := by decide +kernel
theorem dX5_take_98 : decode cX5_take 98 = .ok (.if_icmp .eq 20, 3) := by decide +kernel
theorem dX5_take_101 : decode cX5_take 101 = .ok (.aload_n 0, 1) := by decide +kernel
theorem dX5_take_102 : decode cX5_take 102 = .ok (.getfield 48, 3) := by decide +kernel
theorem dX5_take_105 : decode cX5_take 105 = .ok (.iload_n 3, 1) := by decide +kernel
theorem dX5_take_106 : decode cX5_take 106 = .ok (.iconst 1, 1) := by decide +kernel
theorem dX5_take_107 : decode cX5_take 107 = .ok (.bastore, 1) := by decide +kernel
theorem dX5_take_108 : decode cX5_take 108 = .ok (.aload_n 0, 1) := by decide +kernel
theorem dX5_take_109 : decode cX5_take 109 = .ok (.dup, 1) := by decide +kernel
theorem dX5_take_110 : decode cX5_take 110 = .ok (.getfield 112, 3) := by decide +kernel
theorem dX5_take_113 : decode cX5_take 113 = .ok (.iconst 1, 1) := by decide +kernel
theorem dX5_take_114 : decode cX5_take 114 = .ok (.iadd, 1) := by decide +kernel
theorem dX5_take_115 : decode cX5_take 115 = .ok (.putfield 112, 3) := by decide +kernel
theorem dX5_take_118 : decode cX5_take 118 = .ok (.iload_n 3, 1) := by decide +kernel
theorem dX5_take_119 : decode cX5_take 119 = .ok (.ireturn, 1) := by decide +kernel
def b_X5_take_4 (x1 : Int32) (M : Mem) (rec : Int32 → Int32 → Int32 × Int32) (v2 : Int32) (v3 : Int32) : Int32 × Int32 :=
  if 3 ≤ v3 then (v2, v3)
  else if v3 = x1 then rec v2 (v3 + 1)
  else if v2 = (-1) then rec v3 (v3 + 1)
  else if (f_X5_countFree_12 v3 M) ≤ (f_X5_countFree_12 v2 M) then rec v2 (v3 + 1)
  else rec v3 (v3 + 1)
def l_X5_take_4 (x1 : Int32) (M : Mem) : Nat → Int32 → Int32 → Int32 × Int32
  | 0, v2, v3 => (v2, v3)
  | n + 1, v2, v3 => b_X5_take_4 x1 M (l_X5_take_4 x1 M n) v2 v3
set_option maxRecDepth 100000 in
set_option maxHeartbeats 4000000 in
theorem kl_X5_take_4 (q : ZQ) (x1 : Int32) (M : Mem) {K : Int32 × Int32 → ZR} (hx : ∀ e : Int32 × Int32, (0 ≤ e.1.toInt ∧ e.1.toInt < 3) → Zg (zgM q) mX5_take 0 0 0 0 (K e) 48 [some (.inr 0), some (.inl x1), some (.inl e.1), some (.inl e.2), none] [] M) :
    ∀ (n : Nat) (v2 : Int32) (v3 : Int32), zTk x1 v2 v3 → ((3 : Int32).toInt - (v3 : Int32).toInt).toNat < n → Zg (zgM q) mX5_take 0 0 0 0 (zlet (l_X5_take_4 x1 M n v2 v3) K) 4 [some (.inr 0), some (.inl x1), some (.inl v2), some (.inl v3), none] [] M := by
  intro n
  induction n with
  | zero => intro v2 v3 hI hm; exact absurd hm (Nat.not_lt_zero _)
  | succ n ih =>
    intro v2 v3 hI hm
    show Zg _ _ _ _ _ _ (zlet (b_X5_take_4 x1 M (l_X5_take_4 x1 M n) v2 v3) K) _ _ _ _
    unfold b_X5_take_4
    refine zg_iload_n (x := v3) dX5_take_4 rfl ?_
    refine zg_iconst (v := 3) dX5_take_5 rfl ?_
    refine zg_icmpz (tgt := 48) dX5_take_6 rfl rfl (fun c6 => ?_) (fun c6 => ?_)
    · refine zg_st (pc' := 48) (L' := [some (.inr 0), some (.inl x1), some (.inl v2), some (.inl v3), none]) (S' := []) (M' := M) rfl rfl rfl rfl ?_
      refine zg_drop (L' := [some (.inr 0), some (.inl x1), some (.inl v2), some (.inl v3), none]) ⟨rfl, rfl, rfl, rfl, trivial⟩ ?_
      exact hx (v2, v3) (by clear ih hx; simp only [zTk, ← Int32.toInt_inj, Int32.le_iff_toInt_le, Int32.lt_iff_toInt_lt, Int32.reduceToInt, Int32.reduceNeg] at *; omega)
    · refine zg_st (pc' := 9) (L' := [some (.inr 0), some (.inl x1), some (.inl v2), some (.inl v3), none]) (S' := []) (M' := M) rfl rfl rfl rfl ?_
      refine zg_iload_n (x := v3) dX5_take_9 rfl ?_
      refine zg_iload_n (x := x1) dX5_take_10 rfl ?_
      refine zg_icmpz (tgt := 42) dX5_take_11 rfl rfl (fun c11 => ?_) (fun c11 => ?_)
      · refine zg_st (pc' := 42) (L' := [some (.inr 0), some (.inl x1), some (.inl v2), some (.inl v3), none]) (S' := []) (M' := M) rfl rfl rfl rfl ?_
        refine zg_iinc (v := (v3 + 1)) dX5_take_42 rfl (by decide) rfl ?_
        refine zg_st (pc' := 45) (L' := [some (.inr 0), some (.inl x1), some (.inl v2), some (.inl (v3 + 1)), none]) (S' := []) (M' := M) rfl rfl rfl rfl ?_
        refine zg_goto (tgt := 4) dX5_take_45 rfl ?_
        refine zg_st (pc' := 4) (L' := [some (.inr 0), some (.inl x1), some (.inl v2), some (.inl (v3 + 1)), none]) (S' := []) (M' := M) rfl rfl rfl rfl ?_
        refine zg_drop (L' := [some (.inr 0), some (.inl x1), some (.inl v2), some (.inl (v3 + 1)), none]) ⟨rfl, rfl, rfl, rfl, trivial⟩ ?_
        exact ih v2 (v3 + 1) (by clear ih hx; have e := z_p1 c6; simp only [zTk, ← Int32.toInt_inj, Int32.le_iff_toInt_le, Int32.lt_iff_toInt_lt, Int32.reduceToInt, Int32.reduceNeg] at *; omega) (z_up c6 hm)
      · refine zg_st (pc' := 14) (L' := [some (.inr 0), some (.inl x1), some (.inl v2), some (.inl v3), none]) (S' := []) (M' := M) rfl rfl rfl rfl ?_
        refine zg_iload_n (x := v2) dX5_take_14 rfl ?_
        refine zg_iconst (v := (-1)) dX5_take_15 rfl ?_
        refine zg_icmpz (tgt := 40) dX5_take_16 rfl rfl (fun c16 => ?_) (fun c16 => ?_)
        · refine zg_st (pc' := 40) (L' := [some (.inr 0), some (.inl x1), some (.inl v2), some (.inl v3), none]) (S' := []) (M' := M) rfl rfl rfl rfl ?_
          refine zg_iload_n (x := v3) dX5_take_40 rfl ?_
          refine zg_istore_n dX5_take_41 (by decide) ?_
          refine zg_st (pc' := 42) (L' := [some (.inr 0), some (.inl x1), some (.inl v3), some (.inl v3), none]) (S' := []) (M' := M) rfl rfl rfl rfl ?_
          refine zg_iinc (v := (v3 + 1)) dX5_take_42 rfl (by decide) rfl ?_
          refine zg_st (pc' := 45) (L' := [some (.inr 0), some (.inl x1), some (.inl v3), some (.inl (v3 + 1)), none]) (S' := []) (M' := M) rfl rfl rfl rfl ?_
          refine zg_goto (tgt := 4) dX5_take_45 rfl ?_
          refine zg_st (pc' := 4) (L' := [some (.inr 0), some (.inl x1), some (.inl v3), some (.inl (v3 + 1)), none]) (S' := []) (M' := M) rfl rfl rfl rfl ?_
          refine zg_drop (L' := [some (.inr 0), some (.inl x1), some (.inl v3), some (.inl (v3 + 1)), none]) ⟨rfl, rfl, rfl, rfl, trivial⟩ ?_
          exact ih v3 (v3 + 1) (by clear ih hx; have e := z_p1 c6; simp only [zTk, ← Int32.toInt_inj, Int32.le_iff_toInt_le, Int32.lt_iff_toInt_lt, Int32.reduceToInt, Int32.reduceNeg] at *; omega) (z_up c6 hm)
        · refine zg_st (pc' := 19) (L' := [some (.inr 0), some (.inl x1), some (.inl v2), some (.inl v3), none]) (S' := []) (M' := M) rfl rfl rfl rfl ?_
          refine zg_aload_n (x := 0) dX5_take_19 rfl ?_
          refine zg_iload_n (x := v3) dX5_take_20 rfl ?_
          refine zg_aload_n (x := 0) dX5_take_21 rfl ?_
          refine zg_getf (v := .inr 12) dX5_take_22 zf_X5_48 rfl rfl rfl ?_
          refine zg_cV1 (As := [.inl v3, .inr 12]) (S := []) (v := (f_X5_countFree_12 v3 M)) dX5_take_25 zk_X5_108 (k_X5_countFree_12 q v3 M (by clear ih hx; simp only [zTk, ← Int32.toInt_inj, Int32.le_iff_toInt_le, Int32.lt_iff_toInt_lt, Int32.reduceToInt, Int32.reduceNeg] at *; omega)) rfl rfl ⟨by decide, by decide⟩ ⟨by decide, by decide⟩ rfl (Nat.le_of_ble_eq_true rfl) ?_
          refine zg_st (pc' := 28) (L' := [some (.inr 0), some (.inl x1), some (.inl v2), some (.inl v3), none]) (S' := [.inl (f_X5_countFree_12 v3 M)]) (M' := M) rfl rfl rfl rfl ?_
          refine zg_aload_n (x := 0) dX5_take_28 rfl ?_
          refine zg_iload_n (x := v2) dX5_take_29 rfl ?_
          refine zg_aload_n (x := 0) dX5_take_30 rfl ?_
          refine zg_getf (v := .inr 12) dX5_take_31 zf_X5_48 rfl rfl rfl ?_
          refine zg_cV1 (As := [.inl v2, .inr 12]) (S := [.inl (f_X5_countFree_12 v3 M)]) (v := (f_X5_countFree_12 v2 M)) dX5_take_34 zk_X5_108 (k_X5_countFree_12 q v2 M (by clear ih hx; simp only [zTk, ← Int32.toInt_inj, Int32.le_iff_toInt_le, Int32.lt_iff_toInt_lt, Int32.reduceToInt, Int32.reduceNeg] at *; omega)) rfl rfl ⟨by decide, by decide⟩ ⟨by decide, by decide⟩ rfl (Nat.le_of_ble_eq_true rfl) ?_
          refine zg_st (pc' := 37) (L' := [some (.inr 0), some (.inl x1), some (.inl v2), some (.inl v3), none]) (S' := [.inl (f_X5_countFree_12 v2 M), .inl (f_X5_countFree_12 v3 M)]) (M' := M) rfl rfl rfl rfl ?_
          refine zg_icmpz (tgt := 42) dX5_take_37 rfl rfl (fun c37 => ?_) (fun c37 => ?_)
          · refine zg_st (pc' := 42) (L' := [some (.inr 0), some (.inl x1), some (.inl v2), some (.inl v3), none]) (S' := []) (M' := M) rfl rfl rfl rfl ?_
            refine zg_iinc (v := (v3 + 1)) dX5_take_42 rfl (by decide) rfl ?_
            refine zg_st (pc' := 45) (L' := [some (.inr 0), some (.inl x1), some (.inl v2), some (.inl (v3 + 1)), none]) (S' := []) (M' := M) rfl rfl rfl rfl ?_
            refine zg_goto (tgt := 4) dX5_take_45 rfl ?_
            refine zg_st (pc' := 4) (L' := [some (.inr 0), some (.inl x1), some (.inl v2), some (.inl (v3 + 1)), none]) (S' := []) (M' := M) rfl rfl rfl rfl ?_
            refine zg_drop (L' := [some (.inr 0), some (.inl x1), some (.inl v2), some (.inl (v3 + 1)), none]) ⟨rfl, rfl, rfl, rfl, trivial⟩ ?_
            exact ih v2 (v3 + 1) (by clear ih hx; have e := z_p1 c6; simp only [zTk, ← Int32.toInt_inj, Int32.le_iff_toInt_le, Int32.lt_iff_toInt_lt, Int32.reduceToInt, Int32.reduceNeg] at *; omega) (z_up c6 hm)
          · refine zg_st (pc' := 40) (L' := [some (.inr 0), some (.inl x1), some (.inl v2), some (.inl v3), none]) (S' := []) (M' := M) rfl rfl rfl rfl ?_
            refine zg_iload_n (x := v3) dX5_take_40 rfl ?_
            refine zg_istore_n dX5_take_41 (by decide) ?_
            refine zg_st (pc' := 42) (L' := [some (.inr 0), some (.inl x1), some (.inl v3), some (.inl v3), none]) (S' := []) (M' := M) rfl rfl rfl rfl ?_
            refine zg_iinc (v := (v3 + 1)) dX5_take_42 rfl (by decide) rfl ?_
            refine zg_st (pc' := 45) (L' := [some (.inr 0), some (.inl x1), some (.inl v3), some (.inl (v3 + 1)), none]) (S' := []) (M' := M) rfl rfl rfl rfl ?_
            refine zg_goto (tgt := 4) dX5_take_45 rfl ?_
            refine zg_st (pc' := 4) (L' := [some (.inr 0), some (.inl x1), some (.inl v3), some (.inl (v3 + 1)), none]) (S' := []) (M' := M) rfl rfl rfl rfl ?_
            refine zg_drop (L' := [some (.inr 0), some (.inl x1), some (.inl v3), some (.inl (v3 + 1)), none]) ⟨rfl, rfl, rfl, rfl, trivial⟩ ?_
            exact ih v3 (v3 + 1) (by clear ih hx; have e := z_p1 c6; simp only [zTk, ← Int32.toInt_inj, Int32.le_iff_toInt_le, Int32.lt_iff_toInt_lt, Int32.reduceToInt, Int32.reduceNeg] at *; omega) (z_up c6 hm)
def b_X5_take_56 (x2 : Int32) (M : Mem) (rec : Int32 → Int32 → Int32 × Int32) (v3 : Int32) (v4 : Int32) : Int32 × Int32 :=
  if ((40 * x2) + 40) ≤ v4 then (v3, v4)
  else if ¬ v3 = (-1) then (v3, v4)
  else if (M 12 v4.toNatClampNeg) = 0 then rec v4 (v4 + 1)
  else rec (-1) (v4 + 1)
def l_X5_take_56 (x2 : Int32) (M : Mem) : Nat → Int32 → Int32 → Int32 × Int32
  | 0, v3, v4 => (v3, v4)
  | n + 1, v3, v4 => b_X5_take_56 x2 M (l_X5_take_56 x2 M n) v3 v4
set_option maxRecDepth 100000 in
set_option maxHeartbeats 4000000 in
theorem kl_X5_take_56 (q : ZQ) (x2 : Int32) (M : Mem) (hx2 : 0 ≤ x2.toInt ∧ x2.toInt < 3) {K : Int32 × Int32 → ZR} (hx : ∀ e : Int32 × Int32, (0 : Int) ≤ e.2.toInt ∧ (-1 ≤ e.1.toInt ∧ e.1.toInt < 120) → Zg (zgM q) mX5_take 0 0 0 0 (K e) 96 [some (.inr 0), none, some (.inl x2), some (.inl e.1), some (.inl e.2)] [] M) :
    ∀ (n : Nat) (v3 : Int32) (v4 : Int32), (0 : Int) ≤ v4.toInt ∧ (-1 ≤ v3.toInt ∧ v3.toInt < 120) → ((((40 * x2) + 40) : Int32).toInt - (v4 : Int32).toInt).toNat < n → Zg (zgM q) mX5_take 0 0 0 0 (zlet (l_X5_take_56 x2 M n v3 v4) K) 56 [some (.inr 0), none, some (.inl x2), some (.inl v3), some (.inl v4)] [] M := by
  intro n
  induction n with
  | zero => intro v3 v4 hI hm; exact absurd hm (Nat.not_lt_zero _)
  | succ n ih =>
    intro v3 v4 hI hm
    show Zg _ _ _ _ _ _ (zlet (b_X5_take_56 x2 M (l_X5_take_56 x2 M n) v3 v4) K) _ _ _ _
    unfold b_X5_take_56
    refine zg_iload (x := v4) dX5_take_56 rfl ?_
    refine zg_bipush (v := 40) dX5_take_58 rfl ?_
    refine zg_iload_n (x := x2) dX5_take_60 rfl ?_
    refine zg_imul dX5_take_61 ?_
    refine zg_bipush (v := 40) dX5_take_62 rfl ?_
    refine zg_iadd dX5_take_64 ?_
    refine zg_icmpz (tgt := 96) dX5_take_65 rfl rfl (fun c65 => ?_) (fun c65 => ?_)
    · refine zg_st (pc' := 96) (L' := [some (.inr 0), none, some (.inl x2), some (.inl v3), some (.inl v4)]) (S' := []) (M' := M) rfl rfl rfl rfl ?_
      refine zg_drop (L' := [some (.inr 0), none, some (.inl x2), some (.inl v3), some (.inl v4)]) ⟨rfl, rfl, rfl, rfl, trivial⟩ ?_
      exact hx (v3, v4) hI
    · refine zg_st (pc' := 68) (L' := [some (.inr 0), none, some (.inl x2), some (.inl v3), some (.inl v4)]) (S' := []) (M' := M) rfl rfl rfl rfl ?_
      refine zg_iload_n (x := v3) dX5_take_68 rfl ?_
      refine zg_iconst (v := (-1)) dX5_take_69 rfl ?_
      refine zg_icmpz (tgt := 96) dX5_take_70 rfl rfl (fun c70 => ?_) (fun c70 => ?_)
      · refine zg_st (pc' := 96) (L' := [some (.inr 0), none, some (.inl x2), some (.inl v3), some (.inl v4)]) (S' := []) (M' := M) rfl rfl rfl rfl ?_
        refine zg_drop (L' := [some (.inr 0), none, some (.inl x2), some (.inl v3), some (.inl v4)]) ⟨rfl, rfl, rfl, rfl, trivial⟩ ?_
        exact hx (v3, v4) hI
      · refine zg_st (pc' := 73) (L' := [some (.inr 0), none, some (.inl x2), some (.inl v3), some (.inl v4)]) (S' := []) (M' := M) rfl rfl rfl rfl ?_
        refine zg_aload_n (x := 0) dX5_take_73 rfl ?_
        refine zg_getf (v := .inr 12) dX5_take_74 zf_X5_48 rfl rfl rfl ?_
        refine zg_iload (x := v4) dX5_take_77 rfl ?_
        refine zg_zald dX5_take_79 rfl (z_cf c65 hx2 hI.1) ?_
        refine zg_ifz (tgt := 87) dX5_take_80 rfl rfl (fun c80 => ?_) (fun c80 => ?_)
        · refine zg_st (pc' := 87) (L' := [some (.inr 0), none, some (.inl x2), some (.inl v3), some (.inl v4)]) (S' := []) (M' := M) rfl rfl rfl rfl ?_
          refine zg_iload (x := v4) dX5_take_87 rfl ?_
          refine zg_istore_n dX5_take_89 (by decide) ?_
          refine zg_st (pc' := 90) (L' := [some (.inr 0), none, some (.inl x2), some (.inl v4), some (.inl v4)]) (S' := []) (M' := M) rfl rfl rfl rfl ?_
          refine zg_iinc (v := (v4 + 1)) dX5_take_90 rfl (by decide) rfl ?_
          refine zg_st (pc' := 93) (L' := [some (.inr 0), none, some (.inl x2), some (.inl v4), some (.inl (v4 + 1))]) (S' := []) (M' := M) rfl rfl rfl rfl ?_
          refine zg_goto (tgt := 56) dX5_take_93 rfl ?_
          refine zg_st (pc' := 56) (L' := [some (.inr 0), none, some (.inl x2), some (.inl v4), some (.inl (v4 + 1))]) (S' := []) (M' := M) rfl rfl rfl rfl ?_
          refine zg_drop (L' := [some (.inr 0), none, some (.inl x2), some (.inl v4), some (.inl (v4 + 1))]) ⟨rfl, rfl, rfl, rfl, trivial⟩ ?_
          exact ih v4 (v4 + 1) ⟨z_ge0 c65 hI.1, by first | exact ⟨by have := hI.1; omega, (vp_in_iff.mp (z_cf c65 hx2 hI.1)).2⟩ | decide⟩ (z_up c65 hm)
        · refine zg_st (pc' := 83) (L' := [some (.inr 0), none, some (.inl x2), some (.inl v3), some (.inl v4)]) (S' := []) (M' := M) rfl rfl rfl rfl ?_
          refine zg_iconst (v := (-1)) dX5_take_83 rfl ?_
          refine zg_goto (tgt := 89) dX5_take_84 rfl ?_
          refine zg_st (pc' := 89) (L' := [some (.inr 0), none, some (.inl x2), some (.inl v3), some (.inl v4)]) (S' := [.inl (-1)]) (M' := M) rfl rfl rfl rfl ?_
          refine zg_istore_n dX5_take_89 (by decide) ?_
          refine zg_st (pc' := 90) (L' := [some (.inr 0), none, some (.inl x2), some (.inl (-1)), some (.inl v4)]) (S' := []) (M' := M) rfl rfl rfl rfl ?_
          refine zg_iinc (v := (v4 + 1)) dX5_take_90 rfl (by decide) rfl ?_
          refine zg_st (pc' := 93) (L' := [some (.inr 0), none, some (.inl x2), some (.inl (-1)), some (.inl (v4 + 1))]) (S' := []) (M' := M) rfl rfl rfl rfl ?_
          refine zg_goto (tgt := 56) dX5_take_93 rfl ?_
          refine zg_st (pc' := 56) (L' := [some (.inr 0), none, some (.inl x2), some (.inl (-1)), some (.inl (v4 + 1))]) (S' := []) (M' := M) rfl rfl rfl rfl ?_
          refine zg_drop (L' := [some (.inr 0), none, some (.inl x2), some (.inl (-1)), some (.inl (v4 + 1))]) ⟨rfl, rfl, rfl, rfl, trivial⟩ ?_
          exact ih (-1) (v4 + 1) ⟨z_ge0 c65 hI.1, by first | exact ⟨by have := hI.1; omega, (vp_in_iff.mp (z_cf c65 hx2 hI.1)).2⟩ | decide⟩ (z_up c65 hm)
def f_X5_take (p1 : Int32) (M : Mem) : (Int32 × Mem) :=
  zlet (l_X5_take_4 p1 M 4 (-1) 0) (fun s1 =>
  zlet (l_X5_take_56 s1.1 M (((((40 * s1.1) + 40) : Int32).toInt - ((40 * s1.1) : Int32).toInt).toNat + 1) (-1) (40 * s1.1)) (fun s2 =>
    if s2.1 = (-1) then (s2.1, M)
      else (s2.1, (mup (mup M 12 s2.1.toNatClampNeg 1) 0 19 (((mup M 12 s2.1.toNatClampNeg 1) 0 19) + 1)))))
set_option maxRecDepth 100000 in
set_option maxHeartbeats 4000000 in
theorem k_X5_take (q : ZQ) (p1 : Int32) (M : Mem) : Zc (zgM q) mX5_take 0 0 [.inr 0, .inl p1] M (wIM (f_X5_take p1 M)) := by
  refine Zc.of (by decide) zi_X5_take.1 (Nat.le_of_ble_eq_true rfl) rfl ?_
  show Zg _ _ _ _ _ _ (zlet (f_X5_take p1 M) wIM) _ _ _ _
  unfold f_X5_take
  refine zg_iconst (v := (-1)) dX5_take_0 rfl ?_
  refine zg_istore_n dX5_take_1 (by decide) ?_
  refine zg_st (pc' := 2) (L' := [some (.inr 0), some (.inl p1), some (.inl (-1)), none, none]) (S' := []) (M' := M) rfl rfl rfl rfl ?_
  refine zg_iconst (v := 0) dX5_take_2 rfl ?_
  refine zg_istore_n dX5_take_3 (by decide) ?_
  refine zg_st (pc' := 4) (L' := [some (.inr 0), some (.inl p1), some (.inl (-1)), some (.inl 0), none]) (S' := []) (M' := M) rfl rfl rfl rfl ?_
  refine zg_asc ?_
  refine zg_drop (L' := [some (.inr 0), some (.inl p1), some (.inl (-1)), some (.inl 0), none]) ⟨rfl, rfl, rfl, rfl, trivial⟩ ?_
  refine kl_X5_take_4 q p1 M (fun s1 hI_s1 => ?_) 4 (-1) 0 (by simp [zTk]) (by decide)
  try dsimp only [Sum.elim_inr]
  refine zg_st (pc' := 48) (L' := [some (.inr 0), some (.inl p1), some (.inl s1.1), some (.inl s1.2), none]) (S' := []) (M' := M) rfl rfl rfl rfl ?_
  refine zg_iconst (v := (-1)) dX5_take_48 rfl ?_
  refine zg_istore_n dX5_take_49 (by decide) ?_
  refine zg_st (pc' := 50) (L' := [some (.inr 0), some (.inl p1), some (.inl s1.1), some (.inl (-1)), none]) (S' := []) (M' := M) rfl rfl rfl rfl ?_
  refine zg_bipush (v := 40) dX5_take_50 rfl ?_
  refine zg_iload_n (x := s1.1) dX5_take_52 rfl ?_
  refine zg_imul dX5_take_53 ?_
  refine zg_istore dX5_take_54 (by decide) ?_
  refine zg_st (pc' := 56) (L' := [some (.inr 0), some (.inl p1), some (.inl s1.1), some (.inl (-1)), some (.inl (40 * s1.1))]) (S' := []) (M' := M) rfl rfl rfl rfl ?_
  refine zg_asc ?_
  refine zg_drop (L' := [some (.inr 0), none, some (.inl s1.1), some (.inl (-1)), some (.inl (40 * s1.1))]) ⟨rfl, rfl, rfl, rfl, trivial⟩ ?_
  refine kl_X5_take_56 q s1.1 M hI_s1 (fun s2 hI_s2 => ?_) (((((40 * s1.1) + 40) : Int32).toInt - ((40 * s1.1) : Int32).toInt).toNat + 1) (-1) (40 * s1.1) ⟨by rw [z40' hI_s1]; omega, by decide⟩ (Nat.lt_succ_self _)
  try dsimp only [Sum.elim_inr]
  refine zg_st (pc' := 96) (L' := [some (.inr 0), none, some (.inl s1.1), some (.inl s2.1), some (.inl s2.2)]) (S' := []) (M' := M) rfl rfl rfl rfl ?_
  refine zg_iload_n (x := s2.1) dX5_take_96 rfl ?_
  refine zg_iconst (v := (-1)) dX5_take_97 rfl ?_
  refine zg_icmpz (tgt := 118) dX5_take_98 rfl rfl (fun c98 => ?_) (fun c98 => ?_)
  · refine zg_st (pc' := 118) (L' := [some (.inr 0), none, some (.inl s1.1), some (.inl s2.1), some (.inl s2.2)]) (S' := []) (M' := M) rfl rfl rfl rfl ?_
    refine zg_iload_n (x := s2.1) dX5_take_118 rfl ?_
    exact zg_iret dX5_take_119 rfl rfl ⟨by decide, by decide⟩ rfl
  · refine zg_st (pc' := 101) (L' := [some (.inr 0), none, some (.inl s1.1), some (.inl s2.1), some (.inl s2.2)]) (S' := []) (M' := M) rfl rfl rfl rfl ?_
    refine zg_aload_n (x := 0) dX5_take_101 rfl ?_
    refine zg_getf (v := .inr 12) dX5_take_102 zf_X5_48 rfl rfl rfl ?_
    refine zg_iload_n (x := s2.1) dX5_take_105 rfl ?_
    refine zg_iconst (v := 1) dX5_take_106 rfl ?_
    refine zg_zast (v := 1) dX5_take_107 rfl (z_nn hI_s2.2 c100) rfl ?_
    refine zg_aload_n (x := 0) dX5_take_108 rfl ?_
    refine zg_dup dX5_take_109 ?_
    refine zg_getf (v := .inl ((mup M 12 s2.1.toNatClampNeg 1) 0 19)) dX5_take_110 zf_X5_112 rfl rfl rfl ?_
    refine zg_iconst (v := 1) dX5_take_113 rfl ?_
    refine zg_iadd dX5_take_114 ?_
    refine zg_putf dX5_take_115 zp_X5_112 rfl rfl ?_
    refine zg_iload_n (x := s2.1) dX5_take_118 rfl ?_
    exact zg_iret dX5_take_119 rfl rfl ⟨by decide, by decide⟩ rfl
theorem dX5_tryOut_0 : decode cX5_tryOut 0 = .ok (.aload_n 0, 1) := by decide +kernel
theorem dX5_tryOut_1 : decode cX5_tryOut 1 = .ok (.getfield 60, 3) := by decide +kernel
theorem dX5_tryOut_4 : decode cX5_tryOut 4 = .ok (.iload_n 1, 1) := by decide +kernel
theorem dX5_tryOut_5 : decode cX5_tryOut 5 = .ok (.iconst 1, 1) := by decide +kernel
theorem dX5_tryOut_6 : decode cX5_tryOut 6 = .ok (.bastore, 1) := by decide +kernel
theorem dX5_tryOut_7 : decode cX5_tryOut 7 = .ok (.aload_n 0, 1) := by decide +kernel
theorem dX5_tryOut_8 : decode cX5_tryOut 8 = .ok (.getfield 54, 3) := by decide +kernel
theorem dX5_tryOut_11 : decode cX5_tryOut 11 = .ok (.iload_n 1, 1) := by decide +kernel
theorem dX5_tryOut_12 : decode cX5_tryOut 12 = .ok (.aload_n 0, 1) := by decide +kernel
theorem dX5_tryOut_13 : decode cX5_tryOut 13 = .ok (.iconst (-1), 1) := by decide +kernel
theorem dX5_tryOut_14 : decode cX5_tryOut 14 = .ok (.invokevirtual 115, 3) := by decide +kernel
theorem dX5_tryOut_17 : decode cX5_tryOut 17 = .ok (.iastore, 1) := by decide +kernel
theorem dX5_tryOut_18 : decode cX5_tryOut 18 = .ok (.aload_n 0, 1) := by decide +kernel
theorem dX5_tryOut_19 : decode cX5_tryOut 19 = .ok (.getfield 54, 3) := by decide +kernel
theorem dX5_tryOut_22 : decode cX5_tryOut 22 = .ok (.iload_n 1, 1) := by decide +kernel
theorem dX5_tryOut_23 : decode cX5_tryOut 23 = .ok (.iaload, 1) := by decide +kernel
theorem dX5_tryOut_24 : decode cX5_tryOut 24 = .ok (.iconst (-1), 1) := by decide +kernel
theorem dX5_tryOut_25 : decode cX5_tryOut 25 = .ok (.if_icmp .eq 7, 3) := by decide +kernel
theorem dX5_tryOut_28 : decode cX5_tryOut 28 = .ok (.iconst 1, 1) := by decide +kernel
theorem dX5_tryOut_29 : decode cX5_tryOut 29 = .ok (.goto 4, 3) := by decide +kernel
theorem dX5_tryOut_32 : decode cX5_tryOut 32 = .ok (.iconst 0, 1) := by decide +kernel
theorem dX5_tryOut_33 : decode cX5_tryOut 33 = .ok (.istore_n 3, 1) := by decide +kernel
theorem dX5_tryOut_34 : decode cX5_tryOut 34 = .ok (.iload_n 3, 1) := by decide +kernel
theorem dX5_tryOut_35 : decode cX5_tryOut 35 = .ok (.ifCond .eq 42, 3) := by decide +kernel
theorem dX5_tryOut_38 : decode cX5_tryOut 38 = .ok (.iload_n 2, 1) := by decide +kernel
theorem dX5_tryOut_39 : decode cX5_tryOut 39 = .ok (.ifCond .eq 38, 3) := by decide +kernel
theorem dX5_tryOut_42 : decode cX5_tryOut 42 = .ok (.aload_n 0, 1) := by decide +kernel
theorem dX5_tryOut_43 : decode cX5_tryOut 43 = .ok (.getfield 57, 3) := by decide +kernel
theorem dX5_tryOut_46 : decode cX5_tryOut 46 = .ok (.iload_n 1, 1) := by decide +kernel
theorem dX5_tryOut_47 : decode cX5_tryOut 47 = .ok (.aload_n 0, 1) := by decide +kernel
theorem dX5_tryOut_48 : decode cX5_tryOut 48 = .ok (.aload_n 0, 1) := by decide +kernel
theorem dX5_tryOut_49 : decode cX5_tryOut 49 = .ok (.getfield 54, 3) := by decide +kernel
theorem dX5_tryOut_52 : decode cX5_tryOut 52 = .ok (.iload_n 1, 1) := by decide +kernel
theorem dX5_tryOut_53 : decode cX5_tryOut 53 = .ok (.iaload, 1) := by decide +kernel
theorem dX5_tryOut_54 : decode cX5_tryOut 54 = .ok (.bipush 40, 2) := by decide +kernel
theorem dX5_tryOut_56 : decode cX5_tryOut 56 = .ok (.idiv, 1) := by decide +kernel
theorem dX5_tryOut_57 : decode cX5_tryOut 57 = .ok (.invokevirtual 115, 3) := by decide +kernel
theorem dX5_tryOut_60 : decode cX5_tryOut 60 = .ok (.iastore, 1) := by decide +kernel
theorem dX5_tryOut_61 : decode cX5_tryOut 61 = .ok (.aload_n 0, 1) := by decide +kernel
theorem dX5_tryOut_62 : decode cX5_tryOut 62 = .ok (.getfield 57, 3) := by decide +kernel
theorem dX5_tryOut_65 : decode cX5_tryOut 65 = .ok (.iload_n 1, 1) := by decide +kernel
theorem dX5_tryOut_66 : decode cX5_tryOut 66 = .ok (.iaload, 1) := by decide +kernel
theorem dX5_tryOut_67 : decode cX5_tryOut 67 = .ok (.iconst (-1), 1) := by decide +kernel
theorem dX5_tryOut_68 : decode cX5_tryOut 68 = .ok (.if_icmp .eq 7, 3) := by decide +kernel
theorem dX5_tryOut_71 : decode cX5_tryOut 71 = .ok (.iconst 1, 1) := by decide +kernel
theorem dX5_tryOut_72 : decode cX5_tryOut 72 = .ok (.goto 4, 3) := by decide +kernel
theorem dX5_tryOut_75 : decode cX5_tryOut 75 = .ok (.iconst 0, 1) := by decide +kernel
theorem dX5_tryOut_76 : decode cX5_tryOut 76 = .ok (.istore_n 3, 1) := by decide +kernel
theorem dX5_tryOut_77 : decode cX5_tryOut 77 = .ok (.iload_n 3, 1) := by decide +kernel
theorem dX5_tryOut_78 : decode cX5_tryOut 78 = .ok (.ireturn, 1) := by decide +kernel
def f_X5_tryOut (p1 : Int32) (p2 : Bool) (M : Mem) : (Bool × Mem) :=
  zlet (f_X5_take (-1) (mup M 16 p1.toNatClampNeg 1)) (fun q1 =>
  zlet (if ((mup q1.2 14 p1.toNatClampNeg q1.1) 14 p1.toNatClampNeg) = (-1) then false
      else true) (fun (j2 : Bool) =>
    if j2 then if p2 then zlet (f_X5_take (((mup q1.2 14 p1.toNatClampNeg q1.1) 14 p1.toNatClampNeg) / 40) (mup q1.2 14 p1.toNatClampNeg q1.1)) (fun q4 =>
          if ((mup q4.2 15 p1.toNatClampNeg q4.1) 15 p1.toNatClampNeg) = (-1) then (false, (mup q4.2 15 p1.toNatClampNeg q4.1))
            else (true, (mup q4.2 15 p1.toNatClampNeg q4.1)))
        else (j2, (mup q1.2 14 p1.toNatClampNeg q1.1))
      else (j2, (mup q1.2 14 p1.toNatClampNeg q1.1))))
set_option maxRecDepth 100000 in
set_option maxHeartbeats 4000000 in
theorem k_X5_tryOut (q : ZQ) (p1 : Int32) (p2 : Bool) (M : Mem) (hp : vp_in p1 53) : Zc (zgM q) mX5_tryOut 0 0 [.inr 0, .inl p1, .inl (bI p2)] M (wBM (f_X5_tryOut p1 p2 M)) := by
  refine Zc.of (by decide) zi_X5_tryOut.1 (Nat.le_of_ble_eq_true rfl) rfl ?_
  show Zg _ _ _ _ _ _ (zlet (f_X5_tryOut p1 p2 M) wBM) _ _ _ _
  unfold f_X5_tryOut
  refine zg_aload_n (x := 0) dX5_tryOut_0 rfl ?_
  refine zg_getf (v := .inr 16) dX5_tryOut_1 zf_X5_60 rfl rfl rfl ?_
  refine zg_iload_n (x := p1) dX5_tryOut_4 rfl ?_
  refine zg_iconst (v := 1) dX5_tryOut_5 rfl ?_
  refine zg_zast (v := 1) dX5_tryOut_6 rfl hp rfl ?_
  refine zg_aload_n (x := 0) dX5_tryOut_7 rfl ?_
  refine zg_getf (v := .inr 14) dX5_tryOut_8 zf_X5_54 rfl rfl rfl ?_
  refine zg_iload_n (x := p1) dX5_tryOut_11 rfl ?_
  refine zg_aload_n (x := 0) dX5_tryOut_12 rfl ?_
  refine zg_iconst (v := (-1)) dX5_tryOut_13 rfl ?_
  refine zg_cVIM (As := [.inl (-1)]) (S := [.inl p1, .inr 14]) dX5_tryOut_14 zk_X5_115 (k_X5_take q (-1) (mup M 16 p1.toNatClampNeg 1)) rfl rfl ⟨by decide, by decide⟩ ⟨by decide, by decide⟩ rfl (Nat.le_of_ble_eq_true rfl) (fun q1 e_q1 => ?_)
  try dsimp only
  refine zg_st (pc' := 17) (L' := [some (.inr 0), some (.inl p1), some (.inl (bI p2)), none]) (S' := [.inl q1.1, .inl p1, .inr 14]) (M' := q1.2) rfl rfl rfl rfl ?_
  refine zg_iast dX5_tryOut_17 rfl hp ?_
  refine zg_aload_n (x := 0) dX5_tryOut_18 rfl ?_
  refine zg_getf (v := .inr 14) dX5_tryOut_19 zf_X5_54 rfl rfl rfl ?_
  refine zg_iload_n (x := p1) dX5_tryOut_22 rfl ?_
  refine zg_iald dX5_tryOut_23 rfl hp ?_
  refine zg_iconst (v := (-1)) dX5_tryOut_24 rfl ?_
  refine zg_join (pc' := 33) (Lf := fun (j2 : Bool) => [some (.inr 0), some (.inl p1), some (.inl (bI p2)), none]) (Sf := fun j2 => [.inl (bI j2)]) (Mf := fun j2 => (mup q1.2 14 p1.toNatClampNeg q1.1)) (fun (j2 : Bool) => ?_) (fun J3 => ?_)
  · try dsimp only
    refine zg_istore_n dX5_tryOut_33 (by decide) ?_
    refine zg_st (pc' := 34) (L' := [some (.inr 0), some (.inl p1), some (.inl (bI p2)), some (.inl (bI j2))]) (S' := []) (M' := (mup q1.2 14 p1.toNatClampNeg q1.1)) rfl rfl rfl rfl ?_
    refine zg_iload_n (x := bI j2) dX5_tryOut_34 rfl ?_
    refine zg_ifbe (tgt := 77) dX5_tryOut_35 rfl (fun c35 => ?_) (fun c35 => ?_)
    · refine zg_st (pc' := 38) (L' := [some (.inr 0), some (.inl p1), some (.inl (bI p2)), some (.inl (bI j2))]) (S' := []) (M' := (mup q1.2 14 p1.toNatClampNeg q1.1)) rfl rfl rfl rfl ?_
      refine zg_iload_n (x := bI p2) dX5_tryOut_38 rfl ?_
      refine zg_ifbe (tgt := 77) dX5_tryOut_39 rfl (fun c39 => ?_) (fun c39 => ?_)
      · refine zg_st (pc' := 42) (L' := [some (.inr 0), some (.inl p1), some (.inl (bI p2)), some (.inl (bI j2))]) (S' := []) (M' := (mup q1.2 14 p1.toNatClampNeg q1.1)) rfl rfl rfl rfl ?_
        refine zg_aload_n (x := 0) dX5_tryOut_42 rfl ?_
        refine zg_getf (v := .inr 15) dX5_tryOut_43 zf_X5_57 rfl rfl rfl ?_
        refine zg_iload_n (x := p1) dX5_tryOut_46 rfl ?_
        refine zg_aload_n (x := 0) dX5_tryOut_47 rfl ?_
        refine zg_aload_n (x := 0) dX5_tryOut_48 rfl ?_
        refine zg_getf (v := .inr 14) dX5_tryOut_49 zf_X5_54 rfl rfl rfl ?_
        refine zg_iload_n (x := p1) dX5_tryOut_52 rfl ?_
        refine zg_iald dX5_tryOut_53 rfl hp ?_
        refine zg_bipush (v := 40) dX5_tryOut_54 rfl ?_
        refine zg_idiv dX5_tryOut_56 (by decide) ?_
        refine zg_cVIM (As := [.inl (((mup q1.2 14 p1.toNatClampNeg q1.1) 14 p1.toNatClampNeg) / 40)]) (S := [.inl p1, .inr 15]) dX5_tryOut_57 zk_X5_115 (k_X5_take q (((mup q1.2 14 p1.toNatClampNeg q1.1) 14 p1.toNatClampNeg) / 40) (mup q1.2 14 p1.toNatClampNeg q1.1)) rfl rfl ⟨by decide, by decide⟩ ⟨by decide, by decide⟩ rfl (Nat.le_of_ble_eq_true rfl) (fun q4 e_q4 => ?_)
        try dsimp only
        refine zg_st (pc' := 60) (L' := [some (.inr 0), some (.inl p1), some (.inl (bI p2)), some (.inl (bI j2))]) (S' := [.inl q4.1, .inl p1, .inr 15]) (M' := q4.2) rfl rfl rfl rfl ?_
        refine zg_iast dX5_tryOut_60 rfl hp ?_
        refine zg_aload_n (x := 0) dX5_tryOut_61 rfl ?_
        refine zg_getf (v := .inr 15) dX5_tryOut_62 zf_X5_57 rfl rfl rfl ?_
        refine zg_iload_n (x := p1) dX5_tryOut_65 rfl ?_
        refine zg_iald dX5_tryOut_66 rfl hp ?_
        refine zg_iconst (v := (-1)) dX5_tryOut_67 rfl ?_
        refine zg_icmpz (tgt := 75) dX5_tryOut_68 rfl rfl (fun c68 => ?_) (fun c68 => ?_)
        · refine zg_st (pc' := 75) (L' := [some (.inr 0), some (.inl p1), some (.inl (bI p2)), some (.inl (bI j2))]) (S' := []) (M' := (mup q4.2 15 p1.toNatClampNeg q4.1)) rfl rfl rfl rfl ?_
          refine zg_iconst (v := 0) dX5_tryOut_75 rfl ?_
          refine zg_istore_n dX5_tryOut_76 (by decide) ?_
          refine zg_st (pc' := 77) (L' := [some (.inr 0), some (.inl p1), some (.inl (bI p2)), some (.inl 0)]) (S' := []) (M' := (mup q4.2 15 p1.toNatClampNeg q4.1)) rfl rfl rfl rfl ?_
          refine zg_iload_n (x := 0) dX5_tryOut_77 rfl ?_
          exact zg_iret dX5_tryOut_78 rfl rfl ⟨by decide, by decide⟩ rfl
        · refine zg_st (pc' := 71) (L' := [some (.inr 0), some (.inl p1), some (.inl (bI p2)), some (.inl (bI j2))]) (S' := []) (M' := (mup q4.2 15 p1.toNatClampNeg q4.1)) rfl rfl rfl rfl ?_
          refine zg_iconst (v := 1) dX5_tryOut_71 rfl ?_
          refine zg_goto (tgt := 76) dX5_tryOut_72 rfl ?_
          refine zg_st (pc' := 76) (L' := [some (.inr 0), some (.inl p1), some (.inl (bI p2)), some (.inl (bI j2))]) (S' := [.inl 1]) (M' := (mup q4.2 15 p1.toNatClampNeg q4.1)) rfl rfl rfl rfl ?_
          refine zg_istore_n dX5_tryOut_76 (by decide) ?_
          refine zg_st (pc' := 77) (L' := [some (.inr 0), some (.inl p1), some (.inl (bI p2)), some (.inl 1)]) (S' := []) (M' := (mup q4.2 15 p1.toNatClampNeg q4.1)) rfl rfl rfl rfl ?_
          refine zg_iload_n (x := 1) dX5_tryOut_77 rfl ?_
          exact zg_iret dX5_tryOut_78 rfl rfl ⟨by decide, by decide⟩ rfl
      · refine zg_st (pc' := 77) (L' := [some (.inr 0), some (.inl p1), some (.inl (bI p2)), some (.inl (bI j2))]) (S' := []) (M' := (mup q1.2 14 p1.toNatClampNeg q1.1)) rfl rfl rfl rfl ?_
        refine zg_iload_n (x := bI j2) dX5_tryOut_77 rfl ?_
        exact zg_iret dX5_tryOut_78 rfl (bI_nar _) ⟨by decide, by decide⟩ rfl
    · refine zg_st (pc' := 77) (L' := [some (.inr 0), some (.inl p1), some (.inl (bI p2)), some (.inl (bI j2))]) (S' := []) (M' := (mup q1.2 14 p1.toNatClampNeg q1.1)) rfl rfl rfl rfl ?_
      refine zg_iload_n (x := bI j2) dX5_tryOut_77 rfl ?_
      exact zg_iret dX5_tryOut_78 rfl (bI_nar _) ⟨by decide, by decide⟩ rfl
  · refine zg_icmpz (tgt := 32) dX5_tryOut_25 rfl rfl (fun c25 => ?_) (fun c25 => ?_)
    · refine zg_st (pc' := 32) (L' := [some (.inr 0), some (.inl p1), some (.inl (bI p2)), none]) (S' := []) (M' := (mup q1.2 14 p1.toNatClampNeg q1.1)) rfl rfl rfl rfl ?_
      refine zg_iconst (v := 0) dX5_tryOut_32 rfl ?_
      refine zg_drop (L' := [some (.inr 0), some (.inl p1), some (.inl (bI p2)), none]) ⟨rfl, rfl, rfl, trivial⟩ ?_
      exact J3 false
    · refine zg_st (pc' := 28) (L' := [some (.inr 0), some (.inl p1), some (.inl (bI p2)), none]) (S' := []) (M' := (mup q1.2 14 p1.toNatClampNeg q1.1)) rfl rfl rfl rfl ?_
      refine zg_iconst (v := 1) dX5_tryOut_28 rfl ?_
      refine zg_goto (tgt := 33) dX5_tryOut_29 rfl ?_
      refine zg_st (pc' := 33) (L' := [some (.inr 0), some (.inl p1), some (.inl (bI p2)), none]) (S' := [.inl 1]) (M' := (mup q1.2 14 p1.toNatClampNeg q1.1)) rfl rfl rfl rfl ?_
      refine zg_drop (L' := [some (.inr 0), some (.inl p1), some (.inl (bI p2)), none]) ⟨rfl, rfl, rfl, trivial⟩ ?_
      exact J3 true
theorem dX5_tries_0 : decode cX5_tries 0 = .ok (.aload_n 0, 1) := by decide +kernel
theorem dX5_tries_1 : decode cX5_tries 1 = .ok (.iconst 0, 1) := by decide +kernel
theorem dX5_tries_2 : decode cX5_tries 2 = .ok (.putfield 112, 3) := by decide +kernel
theorem dX5_tries_5 : decode cX5_tries 5 = .ok (.iconst 0, 1) := by decide +kernel
theorem dX5_tries_6 : decode cX5_tries 6 = .ok (.istore_n 1, 1) := by decide +kernel
theorem dX5_tries_7 : decode cX5_tries 7 = .ok (.iload_n 1, 1) := by decide +kernel
theorem dX5_tries_8 : decode cX5_tries 8 = .ok (.bipush 120, 2) := by decide +kernel
theorem dX5_tries_10 : decode cX5_tries 10 = .ok (.if_icmp .ge 21, 3) := by decide +kernel
theorem dX5_tries_13 : decode cX5_tries 13 = .ok (.aload_n 0, 1) := by decide +kernel
theorem dX5_tries_14 : decode cX5_tries 14 = .ok (.getfield 48, 3) := by decide +kernel
theorem dX5_tries_17 : decode cX5_tries 17 = .ok (.iload_n 1, 1) := by decide +kernel
theorem dX5_tries_18 : decode cX5_tries 18 = .ok (.aload_n 0, 1) := by decide +kernel
theorem dX5_tries_19 : decode cX5_tries 19 = .ok (.getfield 35, 3) := by decide +kernel
theorem dX5_tries_22 : decode cX5_tries 22 = .ok (.iload_n 1, 1) := by decide +kernel
theorem dX5_tries_23 : decode cX5_tries 23 = .ok (.baload, 1) := by decide +kernel
theorem dX5_tries_24 : decode cX5_tries 24 = .ok (.bastore, 1) := by decide +kernel
theorem dX5_tries_25 : decode cX5_tries 25 = .ok (.iinc 1 1, 3) := by decide +kernel
theorem dX5_tries_28 : decode cX5_tries 28 = .ok (.goto (-21), 3) := by decide +kernel
theorem dX5_tries_31 : decode cX5_tries 31 = .ok (.iconst 0, 1) := by decide +kernel
theorem dX5_tries_32 : decode cX5_tries 32 = .ok (.istore_n 1, 1) := by decide +kernel
theorem dX5_tries_33 : decode cX5_tries 33 = .ok (.iload_n 1, 1) := by decide +kernel
theorem dX5_tries_34 : decode cX5_tries 34 = .ok (.bipush 53, 2) := by decide +kernel
theorem dX5_tries_36 : decode cX5_tries 36 = .ok (.if_icmp .ge 30, 3) := by decide +kernel
theorem dX5_tries_39 : decode cX5_tries 39 = .ok (.aload_n 0, 1) := by decide +kernel
theorem dX5_tries_40 : decode cX5_tries 40 = .ok (.getfield 60, 3) := by decide +kernel
theorem dX5_tries_43 : decode cX5_tries 43 = .ok (.iload_n 1, 1) := by decide +kernel
theorem dX5_tries_44 : decode cX5_tries 44 = .ok (.iconst 0, 1) := by decide +kernel
theorem dX5_tries_45 : decode cX5_tries 45 = .ok (.bastore, 1) := by decide +kernel
theorem dX5_tries_46 : decode cX5_tries 46 = .ok (.aload_n 0, 1) := by decide +kernel
theorem dX5_tries_47 : decode cX5_tries 47 = .ok (.getfield 54, 3) := by decide +kernel
theorem dX5_tries_50 : decode cX5_tries 50 = .ok (.iload_n 1, 1) := by decide +kernel
theorem dX5_tries_51 : decode cX5_tries 51 = .ok (.iconst (-1), 1) := by decide +kernel
theorem dX5_tries_52 : decode cX5_tries 52 = .ok (.iastore, 1) := by decide +kernel
theorem dX5_tries_53 : decode cX5_tries 53 = .ok (.aload_n 0, 1) := by decide +kernel
theorem dX5_tries_54 : decode cX5_tries 54 = .ok (.getfield 57, 3) := by decide +kernel
theorem dX5_tries_57 : decode cX5_tries 57 = .ok (.iload_n 1, 1) := by decide +kernel
theorem dX5_tries_58 : decode cX5_tries 58 = .ok (.iconst (-1), 1) := by decide +kernel
theorem dX5_tries_59 : decode cX5_tries 59 = .ok (.iastore, 1) := by decide +kernel
theorem dX5_tries_60 : decode cX5_tries 60 = .ok (.iinc 1 1, 3) := by decide +kernel
theorem dX5_tries_63 : decode cX5_tries 63 = .ok (.goto (-30), 3) := by decide +kernel
theorem dX5_tries_66 : decode cX5_tries 66 = .ok (.iconst 1, 1) := by decide +kernel
theorem dX5_tries_67 : decode cX5_tries 67 = .ok (.istore_n 1, 1) := by decide +kernel
theorem dX5_tries_68 : decode cX5_tries 68 = .ok (.iconst 0, 1) := by decide +kernel
theorem dX5_tries_69 : decode cX5_tries 69 = .ok (.istore_n 2, 1) := by decide +kernel
theorem dX5_tries_70 : decode cX5_tries 70 = .ok (.iconst 0, 1) := by decide +kernel
theorem dX5_tries_71 : decode cX5_tries 71 = .ok (.istore_n 3, 1) := by decide +kernel
theorem dX5_tries_72 : decode cX5_tries 72 = .ok (.iconst 0, 1) := by decide +kernel
theorem dX5_tries_73 : decode cX5_tries 73 = .ok (.istore 4, 2) := by decide +kernel
theorem dX5_tries_75 : decode cX5_tries 75 = .ok (.iload 4, 2) := by decide +kernel
theorem dX5_tries_77 : decode cX5_tries 77 = .ok (.iconst 4, 1) := by decide +kernel
theorem dX5_tries_78 : decode cX5_tries 78 = .ok (.if_icmp .ge 181, 3) := by decide +kernel
theorem dX5_tries_81 : decode cX5_tries 81 = .ok (.iload_n 1, 1) := by decide +kernel
theorem dX5_tries_82 : decode cX5_tries 82 = .ok (.ifCond .eq 177, 3) := by decide +kernel
theorem dX5_tries_85 : decode cX5_tries 85 = .ok (.iload_n 3, 1) := by decide +kernel
theorem dX5_tries_86 : decode cX5_tries 86 = .ok (.ifCond .ne 12, 3) := by decide +kernel
theorem dX5_tries_89 : decode cX5_tries 89 = .ok (.aload_n 0, 1) := by decide +kernel
theorem dX5_tries_90 : decode cX5_tries 90 = .ok (.iload 4, 2) := by decide +kernel
theorem dX5_tries_92 : decode cX5_tries 92 = .ok (.invokevirtual 118, 3) := by decide +kernel
theorem dX5_tries_95 : decode cX5_tries 95 = .ok (.ifCond .eq 7, 3) := by decide +kernel
theorem dX5_tries_98 : decode cX5_tries 98 = .ok (.iconst 1, 1) := by decide +kernel
theorem dX5_tries_99 : decode cX5_tries 99 = .ok (.goto 4, 3) := by decide +kernel
theorem dX5_tries_102 : decode cX5_tries 102 = .ok (.iconst 0, 1) := by decide +kernel
theorem dX5_tries_103 : decode cX5_tries 103 = .ok (.istore_n 3, 1) := by decide +kernel
theorem dX5_tries_104 : decode cX5_tries 104 = .ok (.aload_n 0, 1) := by decide +kernel
theorem dX5_tries_105 : decode cX5_tries 105 = .ok (.iload 4, 2) := by decide +kernel
theorem dX5_tries_107 : decode cX5_tries 107 = .ok (.invokevirtual 121, 3) := by decide +kernel
theorem dX5_tries_110 : decode cX5_tries 110 = .ok (.ifCond .eq 143, 3) := by decide +kernel
theorem dX5_tries_113 : decode cX5_tries 113 = .ok (.iconst 1, 1) := by decide +kernel
theorem dX5_tries_114 : decode cX5_tries 114 = .ok (.istore_n 2, 1) := by decide +kernel
theorem dX5_tries_115 : decode cX5_tries 115 = .ok (.aload_n 0, 1) := by decide +kernel
theorem dX5_tries_116 : decode cX5_tries 116 = .ok (.getfield 60, 3) := by decide +kernel
theorem dX5_tries_119 : decode cX5_tries 119 = .ok (.bipush 48, 2) := by decide +kernel
theorem dX5_tries_121 : decode cX5_tries 121 = .ok (.iload 4, 2) := by decide +kernel
theorem dX5_tries_123 : decode cX5_tries 123 = .ok (.iadd, 1) := by decide +kernel
theorem dX5_tries_124 : decode cX5_tries 124 = .ok (.iconst 1, 1) := by decide +kernel
theorem dX5_tries_125 : decode cX5_tries 125 = .ok (.bastore, 1) := by decide +kernel
theorem dX5_tries_126 : decode cX5_tries 126 = .ok (.bipush 12, 2) := by decide +kernel
theorem dX5_tries_128 : decode cX5_tries 128 = .ok (.iload 4, 2) := by decide +kernel
theorem dX5_tries_130 : decode cX5_tries 130 = .ok (.imul, 1) := by decide +kernel
theorem dX5_tries_131 : decode cX5_tries 131 = .ok (.istore 5, 2) := by decide +kernel
theorem dX5_tries_133 : decode cX5_tries 133 = .ok (.iload 5, 2) := by decide +kernel
theorem dX5_tries_135 : decode cX5_tries 135 = .ok (.bipush 12, 2) := by decide +kernel
theorem dX5_tries_137 : decode cX5_tries 137 = .ok (.iload 4, 2) := by decide +kernel
theorem dX5_tries_139 : decode cX5_tries 139 = .ok (.imul, 1) := by decide +kernel
theorem dX5_tries_140 : decode cX5_tries 140 = .ok (.bipush 12, 2) := by decide +kernel
theorem dX5_tries_142 : decode cX5_tries 142 = .ok (.iadd, 1) := by decide +kernel
theorem dX5_tries_143 : decode cX5_tries 143 = .ok (.if_icmp .ge 78, 3) := by decide +kernel
theorem dX5_tries_146 : decode cX5_tries 146 = .ok (.iload_n 1, 1) := by decide +kernel
theorem dX5_tries_147 : decode cX5_tries 147 = .ok (.ifCond .eq 74, 3) := by decide +kernel
theorem dX5_tries_150 : decode cX5_tries 150 = .ok (.aload_n 0, 1) := by decide +kernel
theorem dX5_tries_151 : decode cX5_tries 151 = .ok (.getfield 60, 3) := by decide +kernel
theorem dX5_tries_154 : decode cX5_tries 154 = .ok (.iload 5, 2) := by decide +kernel
theorem dX5_tries_156 : decode cX5_tries 156 = .ok (.aload_n 0, 1) := by decide +kernel
theorem dX5_tries_157 : decode cX5_tries 157 = .ok (.getfield 20, 3) := by decide +kernel
theorem dX5_tries_160 : decode cX5_tries 160 = .ok (.iload 5, 2) := by decide +kernel
theorem dX5_tries_162 : decode cX5_tries 162 = .ok (.iaload, 1) := by decide +kernel
theorem dX5_tries_163 : decode cX5_tries 163 = .ok (.iconst (-1), 1) := by decide +kernel
theorem dX5_tries_164 : decode cX5_tries 164 = .ok (.if_icmp .eq 7, 3) := by decide +kernel
theorem dX5_tries_167 : decode cX5_tries 167 = .ok (.iconst 1, 1) := by decide +kernel
theorem dX5_tries_168 : decode cX5_tries 168 = .ok (.goto 4, 3) := by decide +kernel
theorem dX5_tries_171 : decode cX5_tries 171 = .ok (.iconst 0, 1) := by decide +kernel
theorem dX5_tries_172 : decode cX5_tries 172 = .ok (.bastore, 1) := by decide +kernel
theorem dX5_tries_173 : decode cX5_tries 173 = .ok (.aload_n 0, 1) := by decide +kernel
theorem dX5_tries_174 : decode cX5_tries 174 = .ok (.getfield 20, 3) := by decide +kernel
theorem dX5_tries_177 : decode cX5_tries 177 = .ok (.iload 5, 2) := by decide +kernel
theorem dX5_tries_179 : decode cX5_tries 179 = .ok (.iaload, 1) := by decide +kernel
theorem dX5_tries_180 : decode cX5_tries 180 = .ok (.iconst 1, 1) := by decide +kernel
theorem dX5_tries_181 : decode cX5_tries 181 = .ok (.if_icmp .lt 28, 3) := by decide +kernel
theorem dX5_tries_184 : decode cX5_tries 184 = .ok (.aload_n 0, 1) := by decide +kernel
theorem dX5_tries_185 : decode cX5_tries 185 = .ok (.iload 5, 2) := by decide +kernel
theorem dX5_tries_187 : decode cX5_tries 187 = .ok (.aload_n 0, 1) := by decide +kernel
theorem dX5_tries_188 : decode cX5_tries 188 = .ok (.getfield 13, 3) := by decide +kernel
theorem dX5_tries_191 : decode cX5_tries 191 = .ok (.iload 4, 2) := by decide +kernel
theorem dX5_tries_193 : decode cX5_tries 193 = .ok (.iaload, 1) := by decide +kernel
theorem dX5_tries_194 : decode cX5_tries 194 = .ok (.iconst 2, 1) := by decide +kernel
theorem dX5_tries_195 : decode cX5_tries 195 = .ok (.if_icmp .ne 7, 3) := by decide +kernel
theorem dX5_tries_198 : decode cX5_tries 198 = .ok (.iconst 1, 1) := by decide +kernel
theorem dX5_tries_199 : decode cX5_tries 199 = .ok (.goto 4, 3) := by decide +kernel
theorem dX5_tries_202 : decode cX5_tries 202 = .ok (.iconst 0, 1) := by decide +kernel
theorem dX5_tries_203 : decode cX5_tries 203 = .ok (.invokevirtual 124, 3) := by decide +kernel
theorem dX5_tries_206 : decode cX5_tries 206 = .ok (.ifCond .eq 7, 3) := by decide +kernel
theorem dX5_tries_209 : decode cX5_tries 209 = .ok (.iconst 1, 1) := by decide +kernel
theorem dX5_tries_210 : decode cX5_tries 210 = .ok (.goto 4, 3) := by decide +kernel
theorem dX5_tries_213 : decode cX5_tries 213 = .ok (.iconst 0, 1) := by decide +kernel
theorem dX5_tries_214 : decode cX5_tries 214 = .ok (.istore_n 1, 1) := by decide +kernel
theorem dX5_tries_215 : decode cX5_tries 215 = .ok (.iinc 5 1, 3) := by decide +kernel
theorem dX5_tries_218 : decode cX5_tries 218 = .ok (.goto (-85), 3) := by decide +kernel
theorem dX5_tries_221 : decode cX5_tries 221 = .ok (.iload_n 1, 1) := by decide +kernel
theorem dX5_tries_222 : decode cX5_tries 222 = .ok (.ifCond .eq 29, 3) := by decide +kernel
theorem dX5_tries_225 : decode cX5_tries 225 = .ok (.aload_n 0, 1) := by decide +kernel
theorem dX5_tries_226 : decode cX5_tries 226 = .ok (.iload 4, 2) := by decide +kernel
theorem dX5_tries_228 : decode cX5_tries 228 = .ok (.invokevirtual 118, 3) := by decide +kernel
theorem dX5_tries_231 : decode cX5_tries 231 = .ok (.ifCond .eq 16, 3) := by decide +kernel
theorem dX5_tries_234 : decode cX5_tries 234 = .ok (.aload_n 0, 1) := by decide +kernel
theorem dX5_tries_235 : decode cX5_tries 235 = .ok (.bipush 48, 2) := by decide +kernel
theorem dX5_tries_237 : decode cX5_tries 237 = .ok (.iload 4, 2) := by decide +kernel
theorem dX5_tries_239 : decode cX5_tries 239 = .ok (.iadd, 1) := by decide +kernel
theorem dX5_tries_240 : decode cX5_tries 240 = .ok (.iconst 1, 1) := by decide +kernel
theorem dX5_tries_241 : decode cX5_tries 241 = .ok (.invokevirtual 124, 3) := by decide +kernel
theorem dX5_tries_244 : decode cX5_tries 244 = .ok (.ifCond .eq 7, 3) := by decide +kernel
theorem dX5_tries_247 : decode cX5_tries 247 = .ok (.iconst 1, 1) := by decide +kernel
theorem dX5_tries_248 : decode cX5_tries 248 = .ok (.goto 4, 3) := by decide +kernel
theorem dX5_tries_251 : decode cX5_tries 251 = .ok (.iconst 0, 1) := by decide +kernel
theorem dX5_tries_252 : decode cX5_tries 252 = .ok (.istore_n 1, 1) := by decide +kernel
theorem dX5_tries_253 : decode cX5_tries 253 = .ok (.iinc 4 1, 3) := by decide +kernel
theorem dX5_tries_256 : decode cX5_tries 256 = .ok (.goto (-181), 3) := by decide +kernel
theorem dX5_tries_259 : decode cX5_tries 259 = .ok (.aload_n 0, 1) := by decide +kernel
theorem dX5_tries_260 : decode cX5_tries 260 = .ok (.getfield 60, 3) := by decide +kernel
theorem dX5_tries_263 : decode cX5_tries 263 = .ok (.bipush 52, 2) := by decide +kernel
theorem dX5_tries_265 : decode cX5_tries 265 = .ok (.iload_n 2, 1) := by decide +kernel
theorem dX5_tries_266 : decode cX5_tries 266 = .ok (.bastore, 1) := by decide +kernel
theorem dX5_tries_267 : decode cX5_tries 267 = .ok (.iload_n 1, 1) := by decide +kernel
theorem dX5_tries_268 : decode cX5_tries 268 = .ok (.ifCond .eq 25, 3) := by decide +kernel
theorem dX5_tries_271 : decode cX5_tries 271 = .ok (.iload_n 2, 1) := by decide +kernel
theorem dX5_tries_272 : decode cX5_tries 272 = .ok (.ifCond .eq 17, 3) := by decide +kernel
theorem dX5_tries_275 : decode cX5_tries 275 = .ok (.iload_n 3, 1) := by decide +kernel
theorem dX5_tries_276 : decode cX5_tries 276 = .ok (.ifCond .eq 13, 3) := by decide +kernel
theorem dX5_tries_279 : decode cX5_tries 279 = .ok (.aload_n 0, 1) := by decide +kernel
theorem dX5_tries_280 : decode cX5_tries 280 = .ok (.bipush 52, 2) := by decide +kernel
theorem dX5_tries_282 : decode cX5_tries 282 = .ok (.iconst 1, 1) := by decide +kernel
theorem dX5_tries_283 : decode cX5_tries 283 = .ok (.invokevirtual 124, 3) := by decide +kernel
theorem dX5_tries_286 : decode cX5_tries 286 = .ok (.ifCond .eq 7, 3) := by decide +kernel
theorem dX5_tries_289 : decode cX5_tries 289 = .ok (.iconst 1, 1) := by decide +kernel
theorem dX5_tries_290 : decode cX5_tries 290 = .ok (.goto 4, 3) := by decide +kernel
theorem dX5_tries_293 : decode cX5_tries 293 = .ok (.iconst 0, 1) := by decide +kernel
theorem dX5_tries_294 : decode cX5_tries 294 = .ok (.ireturn, 1) := by decide +kernel
def b_X5_tries_7 (rec : Int32 → Mem → Int32 × Mem) (v1 : Int32) (N : Mem) : Int32 × Mem :=
  if 120 ≤ v1 then (v1, N)
  else rec (v1 + 1) (mup N 12 v1.toNatClampNeg (vp_nar .boolean (N 8 v1.toNatClampNeg)))
def l_X5_tries_7 : Nat → Int32 → Mem → Int32 × Mem
  | 0, v1, N => (v1, N)
  | n + 1, v1, N => b_X5_tries_7 (l_X5_tries_7 n) v1 N
set_option maxRecDepth 100000 in
set_option maxHeartbeats 4000000 in
theorem kl_X5_tries_7 (q : ZQ) {K : Int32 × Mem → ZR} (hx : ∀ e : Int32 × Mem, (0 : Int) ≤ e.1.toInt → Zg (zgM q) mX5_tries 0 0 0 0 (K e) 31 [some (.inr 0), some (.inl e.1), none, none, none, none] [] e.2) :
    ∀ (n : Nat) (v1 : Int32) (N : Mem), (0 : Int) ≤ v1.toInt → ((120 : Int32).toInt - (v1 : Int32).toInt).toNat < n → Zg (zgM q) mX5_tries 0 0 0 0 (zlet (l_X5_tries_7 n v1 N) K) 7 [some (.inr 0), some (.inl v1), none, none, none, none] [] N := by
  intro n
  induction n with
  | zero => intro v1 N hI hm; exact absurd hm (Nat.not_lt_zero _)
  | succ n ih =>
    intro v1 N hI hm
    show Zg _ _ _ _ _ _ (zlet (b_X5_tries_7 (l_X5_tries_7 n) v1 N) K) _ _ _ _
    unfold b_X5_tries_7
    refine zg_iload_n (x := v1) dX5_tries_7 rfl ?_
    refine zg_bipush (v := 120) dX5_tries_8 rfl ?_
    refine zg_icmpz (tgt := 31) dX5_tries_10 rfl rfl (fun c10 => ?_) (fun c10 => ?_)
    · refine zg_st (pc' := 31) (L' := [some (.inr 0), some (.inl v1), none, none, none, none]) (S' := []) (M' := N) rfl rfl rfl rfl ?_
      refine zg_drop (L' := [some (.inr 0), some (.inl v1), none, none, none, none]) ⟨rfl, rfl, trivial⟩ ?_
      exact hx (v1, N) hI
    · refine zg_st (pc' := 13) (L' := [some (.inr 0), some (.inl v1), none, none, none, none]) (S' := []) (M' := N) rfl rfl rfl rfl ?_
      refine zg_aload_n (x := 0) dX5_tries_13 rfl ?_
      refine zg_getf (v := .inr 12) dX5_tries_14 zf_X5_48 rfl rfl rfl ?_
      refine zg_iload_n (x := v1) dX5_tries_17 rfl ?_
      refine zg_aload_n (x := 0) dX5_tries_18 rfl ?_
      refine zg_getf (v := .inr 8) dX5_tries_19 zf_X5_35 rfl rfl rfl ?_
      refine zg_iload_n (x := v1) dX5_tries_22 rfl ?_
      refine zg_zald dX5_tries_23 rfl (z_lt c10 rfl hI) ?_
      refine zg_zast (v := vp_nar .boolean (N 8 v1.toNatClampNeg)) dX5_tries_24 rfl (z_lt c10 rfl hI) rfl ?_
      refine zg_iinc (v := (v1 + 1)) dX5_tries_25 rfl (by decide) rfl ?_
      refine zg_st (pc' := 28) (L' := [some (.inr 0), some (.inl (v1 + 1)), none, none, none, none]) (S' := []) (M' := (mup N 12 v1.toNatClampNeg (vp_nar .boolean (N 8 v1.toNatClampNeg)))) rfl rfl rfl rfl ?_
      refine zg_goto (tgt := 7) dX5_tries_28 rfl ?_
      refine zg_st (pc' := 7) (L' := [some (.inr 0), some (.inl (v1 + 1)), none, none, none, none]) (S' := []) (M' := (mup N 12 v1.toNatClampNeg (vp_nar .boolean (N 8 v1.toNatClampNeg)))) rfl rfl rfl rfl ?_
      refine zg_drop (L' := [some (.inr 0), some (.inl (v1 + 1)), none, none, none, none]) ⟨rfl, rfl, trivial⟩ ?_
      exact ih (v1 + 1) (mup N 12 v1.toNatClampNeg (vp_nar .boolean (N 8 v1.toNatClampNeg))) (z_ge0 c10 hI) (z_up c10 hm)
def b_X5_tries_33 (rec : Int32 → Mem → Int32 × Mem) (v1 : Int32) (N : Mem) : Int32 × Mem :=
  if 53 ≤ v1 then (v1, N)
  else rec (v1 + 1) (mup (mup (mup N 16 v1.toNatClampNeg 0) 14 v1.toNatClampNeg (-1)) 15 v1.toNatClampNeg (-1))
def l_X5_tries_33 : Nat → Int32 → Mem → Int32 × Mem
  | 0, v1, N => (v1, N)
  | n + 1, v1, N => b_X5_tries_33 (l_X5_tries_33 n) v1 N
set_option maxRecDepth 100000 in
set_option maxHeartbeats 4000000 in
theorem kl_X5_tries_33 (q : ZQ) {K : Int32 × Mem → ZR} (hx : ∀ e : Int32 × Mem, (0 : Int) ≤ e.1.toInt → Zg (zgM q) mX5_tries 0 0 0 0 (K e) 66 [some (.inr 0), some (.inl e.1), none, none, none, none] [] e.2) :
    ∀ (n : Nat) (v1 : Int32) (N : Mem), (0 : Int) ≤ v1.toInt → ((53 : Int32).toInt - (v1 : Int32).toInt).toNat < n → Zg (zgM q) mX5_tries 0 0 0 0 (zlet (l_X5_tries_33 n v1 N) K) 33 [some (.inr 0), some (.inl v1), none, none, none, none] [] N := by
  intro n
  induction n with
  | zero => intro v1 N hI hm; exact absurd hm (Nat.not_lt_zero _)
  | succ n ih =>
    intro v1 N hI hm
    show Zg _ _ _ _ _ _ (zlet (b_X5_tries_33 (l_X5_tries_33 n) v1 N) K) _ _ _ _
    unfold b_X5_tries_33
    refine zg_iload_n (x := v1) dX5_tries_33 rfl ?_
    refine zg_bipush (v := 53) dX5_tries_34 rfl ?_
    refine zg_icmpz (tgt := 66) dX5_tries_36 rfl rfl (fun c36 => ?_) (fun c36 => ?_)
    · refine zg_st (pc' := 66) (L' := [some (.inr 0), some (.inl v1), none, none, none, none]) (S' := []) (M' := N) rfl rfl rfl rfl ?_
      refine zg_drop (L' := [some (.inr 0), some (.inl v1), none, none, none, none]) ⟨rfl, rfl, trivial⟩ ?_
      exact hx (v1, N) hI
    · refine zg_st (pc' := 39) (L' := [some (.inr 0), some (.inl v1), none, none, none, none]) (S' := []) (M' := N) rfl rfl rfl rfl ?_
      refine zg_aload_n (x := 0) dX5_tries_39 rfl ?_
      refine zg_getf (v := .inr 16) dX5_tries_40 zf_X5_60 rfl rfl rfl ?_
      refine zg_iload_n (x := v1) dX5_tries_43 rfl ?_
      refine zg_iconst (v := 0) dX5_tries_44 rfl ?_
      refine zg_zast (v := 0) dX5_tries_45 rfl (z_lt c36 rfl hI) rfl ?_
      refine zg_aload_n (x := 0) dX5_tries_46 rfl ?_
      refine zg_getf (v := .inr 14) dX5_tries_47 zf_X5_54 rfl rfl rfl ?_
      refine zg_iload_n (x := v1) dX5_tries_50 rfl ?_
      refine zg_iconst (v := (-1)) dX5_tries_51 rfl ?_
      refine zg_iast dX5_tries_52 rfl (z_lt c36 rfl hI) ?_
      refine zg_aload_n (x := 0) dX5_tries_53 rfl ?_
      refine zg_getf (v := .inr 15) dX5_tries_54 zf_X5_57 rfl rfl rfl ?_
      refine zg_iload_n (x := v1) dX5_tries_57 rfl ?_
      refine zg_iconst (v := (-1)) dX5_tries_58 rfl ?_
      refine zg_iast dX5_tries_59 rfl (z_lt c36 rfl hI) ?_
      refine zg_iinc (v := (v1 + 1)) dX5_tries_60 rfl (by decide) rfl ?_
      refine zg_st (pc' := 63) (L' := [some (.inr 0), some (.inl (v1 + 1)), none, none, none, none]) (S' := []) (M' := (mup (mup (mup N 16 v1.toNatClampNeg 0) 14 v1.toNatClampNeg (-1)) 15 v1.toNatClampNeg (-1))) rfl rfl rfl rfl ?_
      refine zg_goto (tgt := 33) dX5_tries_63 rfl ?_
      refine zg_st (pc' := 33) (L' := [some (.inr 0), some (.inl (v1 + 1)), none, none, none, none]) (S' := []) (M' := (mup (mup (mup N 16 v1.toNatClampNeg 0) 14 v1.toNatClampNeg (-1)) 15 v1.toNatClampNeg (-1))) rfl rfl rfl rfl ?_
      refine zg_drop (L' := [some (.inr 0), some (.inl (v1 + 1)), none, none, none, none]) ⟨rfl, rfl, trivial⟩ ?_
      exact ih (v1 + 1) (mup (mup (mup N 16 v1.toNatClampNeg 0) 14 v1.toNatClampNeg (-1)) 15 v1.toNatClampNeg (-1)) (z_ge0 c36 hI) (z_up c36 hm)
def b_X5_tries_133 (x2 : Int32) (x3 : Bool) (x4 : Int32) (rec : Bool → Int32 → Mem → Bool × Int32 × Mem) (v1 : Bool) (v5 : Int32) (N : Mem) : Bool × Int32 × Mem :=
  if ((12 * x4) + 12) ≤ v5 then (v1, v5, N)
  else if v1 then zlet (if (N 3 v5.toNatClampNeg) = (-1) then false
      else true) (fun (j5 : Bool) =>
    if ((mup N 16 v5.toNatClampNeg (bI j5)) 3 v5.toNatClampNeg) < 1 then rec true (v5 + 1) (mup N 16 v5.toNatClampNeg (bI j5))
      else if ¬ ((mup N 16 v5.toNatClampNeg (bI j5)) 1 x4.toNatClampNeg) = 2 then zlet (f_X5_tryOut v5 false (mup N 16 v5.toNatClampNeg (bI j5))) (fun q7 =>
        if q7.1 then rec true (v5 + 1) q7.2
          else rec false (v5 + 1) q7.2)
      else zlet (f_X5_tryOut v5 true (mup N 16 v5.toNatClampNeg (bI j5))) (fun q8 =>
      if q8.1 then rec true (v5 + 1) q8.2
        else rec false (v5 + 1) q8.2))
  else (v1, v5, N)
def l_X5_tries_133 (x2 : Int32) (x3 : Bool) (x4 : Int32) : Nat → Bool → Int32 → Mem → Bool × Int32 × Mem
  | 0, v1, v5, N => (v1, v5, N)
  | n + 1, v1, v5, N => b_X5_tries_133 x2 x3 x4 (l_X5_tries_133 x2 x3 x4 n) v1 v5 N
set_option maxRecDepth 100000 in
set_option maxHeartbeats 4000000 in
theorem kl_X5_tries_133 (q : ZQ) (x2 : Int32) (x3 : Bool) (x4 : Int32) (hx4 : 0 ≤ x4.toInt ∧ x4.toInt < 4) {K : Bool × Int32 × Mem → ZR} (hx : ∀ e : Bool × Int32 × Mem, (0 : Int) ≤ e.2.1.toInt → Zg (zgM q) mX5_tries 0 0 0 0 (K e) 221 [some (.inr 0), some (.inl (bI e.1)), some (.inl x2), some (.inl (bI x3)), some (.inl x4), some (.inl e.2.1)] [] e.2.2) :
    ∀ (n : Nat) (v1 : Bool) (v5 : Int32) (N : Mem), (0 : Int) ≤ v5.toInt → ((((12 * x4) + 12) : Int32).toInt - (v5 : Int32).toInt).toNat < n → Zg (zgM q) mX5_tries 0 0 0 0 (zlet (l_X5_tries_133 x2 x3 x4 n v1 v5 N) K) 133 [some (.inr 0), some (.inl (bI v1)), some (.inl x2), some (.inl (bI x3)), some (.inl x4), some (.inl v5)] [] N := by
  intro n
  induction n with
  | zero => intro v1 v5 N hI hm; exact absurd hm (Nat.not_lt_zero _)
  | succ n ih =>
    intro v1 v5 N hI hm
    show Zg _ _ _ _ _ _ (zlet (b_X5_tries_133 x2 x3 x4 (l_X5_tries_133 x2 x3 x4 n) v1 v5 N) K) _ _ _ _
    unfold b_X5_tries_133
    refine zg_iload (x := v5) dX5_tries_133 rfl ?_
    refine zg_bipush (v := 12) dX5_tries_135 rfl ?_
    refine zg_iload (x := x4) dX5_tries_137 rfl ?_
    refine zg_imul dX5_tries_139 ?_
    refine zg_bipush (v := 12) dX5_tries_140 rfl ?_
    refine zg_iadd dX5_tries_142 ?_
    refine zg_icmpz (tgt := 221) dX5_tries_143 rfl rfl (fun c143 => ?_) (fun c143 => ?_)
    · refine zg_st (pc' := 221) (L' := [some (.inr 0), some (.inl (bI v1)), some (.inl x2), some (.inl (bI x3)), some (.inl x4), some (.inl v5)]) (S' := []) (M' := N) rfl rfl rfl rfl ?_
      refine zg_drop (L' := [some (.inr 0), some (.inl (bI v1)), some (.inl x2), some (.inl (bI x3)), some (.inl x4), some (.inl v5)]) ⟨rfl, rfl, rfl, rfl, rfl, rfl, trivial⟩ ?_
      exact hx (v1, v5, N) hI
    · refine zg_st (pc' := 146) (L' := [some (.inr 0), some (.inl (bI v1)), some (.inl x2), some (.inl (bI x3)), some (.inl x4), some (.inl v5)]) (S' := []) (M' := N) rfl rfl rfl rfl ?_
      refine zg_iload_n (x := bI v1) dX5_tries_146 rfl ?_
      refine zg_ifbe (tgt := 221) dX5_tries_147 rfl (fun c147 => ?_) (fun c147 => ?_)
      · refine zg_st (pc' := 150) (L' := [some (.inr 0), some (.inl (bI v1)), some (.inl x2), some (.inl (bI x3)), some (.inl x4), some (.inl v5)]) (S' := []) (M' := N) rfl rfl rfl rfl ?_
        refine zg_aload_n (x := 0) dX5_tries_150 rfl ?_
        refine zg_getf (v := .inr 16) dX5_tries_151 zf_X5_60 rfl rfl rfl ?_
        refine zg_iload (x := v5) dX5_tries_154 rfl ?_
        refine zg_aload_n (x := 0) dX5_tries_156 rfl ?_
        refine zg_getf (v := .inr 3) dX5_tries_157 zf_X5_20 rfl rfl rfl ?_
        refine zg_iload (x := v5) dX5_tries_160 rfl ?_
        refine zg_iald dX5_tries_162 rfl (by first | exact z_hd c143 hx4 hI | exact z_48to53 (z_hd c143 hx4 hI) | exact z_v4 hx4) ?_
        refine zg_iconst (v := (-1)) dX5_tries_163 rfl ?_
        refine zg_join (pc' := 172) (Lf := fun (j5 : Bool) => [some (.inr 0), some (.inl (bI v1)), some (.inl x2), some (.inl (bI x3)), some (.inl x4), some (.inl v5)]) (Sf := fun j5 => [.inl (bI j5), .inl v5, .inr 16]) (Mf := fun j5 => N) (fun (j5 : Bool) => ?_) (fun J6 => ?_)
        · try dsimp only
          refine zg_zast (v := bI j5) dX5_tries_172 rfl (by first | exact z_hd c143 hx4 hI | exact z_48to53 (z_hd c143 hx4 hI) | exact z_v4 hx4) (bI_vp _) ?_
          refine zg_aload_n (x := 0) dX5_tries_173 rfl ?_
          refine zg_getf (v := .inr 3) dX5_tries_174 zf_X5_20 rfl rfl rfl ?_
          refine zg_iload (x := v5) dX5_tries_177 rfl ?_
          refine zg_iald dX5_tries_179 rfl (by first | exact z_hd c143 hx4 hI | exact z_48to53 (z_hd c143 hx4 hI) | exact z_v4 hx4) ?_
          refine zg_iconst (v := 1) dX5_tries_180 rfl ?_
          refine zg_icmpz (tgt := 209) dX5_tries_181 rfl rfl (fun c181 => ?_) (fun c181 => ?_)
          · refine zg_st (pc' := 209) (L' := [some (.inr 0), some (.inl (bI v1)), some (.inl x2), some (.inl (bI x3)), some (.inl x4), some (.inl v5)]) (S' := []) (M' := (mup N 16 v5.toNatClampNeg (bI j5))) rfl rfl rfl rfl ?_
            refine zg_iconst (v := 1) dX5_tries_209 rfl ?_
            refine zg_goto (tgt := 214) dX5_tries_210 rfl ?_
            refine zg_st (pc' := 214) (L' := [some (.inr 0), some (.inl (bI v1)), some (.inl x2), some (.inl (bI x3)), some (.inl x4), some (.inl v5)]) (S' := [.inl 1]) (M' := (mup N 16 v5.toNatClampNeg (bI j5))) rfl rfl rfl rfl ?_
            refine zg_istore_n dX5_tries_214 (by decide) ?_
            refine zg_st (pc' := 215) (L' := [some (.inr 0), some (.inl 1), some (.inl x2), some (.inl (bI x3)), some (.inl x4), some (.inl v5)]) (S' := []) (M' := (mup N 16 v5.toNatClampNeg (bI j5))) rfl rfl rfl rfl ?_
            refine zg_iinc (v := (v5 + 1)) dX5_tries_215 rfl (by decide) rfl ?_
            refine zg_st (pc' := 218) (L' := [some (.inr 0), some (.inl 1), some (.inl x2), some (.inl (bI x3)), some (.inl x4), some (.inl (v5 + 1))]) (S' := []) (M' := (mup N 16 v5.toNatClampNeg (bI j5))) rfl rfl rfl rfl ?_
            refine zg_goto (tgt := 133) dX5_tries_218 rfl ?_
            refine zg_st (pc' := 133) (L' := [some (.inr 0), some (.inl 1), some (.inl x2), some (.inl (bI x3)), some (.inl x4), some (.inl (v5 + 1))]) (S' := []) (M' := (mup N 16 v5.toNatClampNeg (bI j5))) rfl rfl rfl rfl ?_
            refine zg_drop (L' := [some (.inr 0), some (.inl 1), some (.inl x2), some (.inl (bI x3)), some (.inl x4), some (.inl (v5 + 1))]) ⟨rfl, rfl, rfl, rfl, rfl, rfl, trivial⟩ ?_
            exact ih true (v5 + 1) (mup N 16 v5.toNatClampNeg (bI j5)) (z_ge0 c143 hI) (z_up c143 hm)
          · refine zg_st (pc' := 184) (L' := [some (.inr 0), some (.inl (bI v1)), some (.inl x2), some (.inl (bI x3)), some (.inl x4), some (.inl v5)]) (S' := []) (M' := (mup N 16 v5.toNatClampNeg (bI j5))) rfl rfl rfl rfl ?_
            refine zg_aload_n (x := 0) dX5_tries_184 rfl ?_
            refine zg_iload (x := v5) dX5_tries_185 rfl ?_
            refine zg_aload_n (x := 0) dX5_tries_187 rfl ?_
            refine zg_getf (v := .inr 1) dX5_tries_188 zf_X5_13 rfl rfl rfl ?_
            refine zg_iload (x := x4) dX5_tries_191 rfl ?_
            refine zg_iald dX5_tries_193 rfl (by first | exact z_hd c143 hx4 hI | exact z_48to53 (z_hd c143 hx4 hI) | exact z_v4 hx4) ?_
            refine zg_iconst (v := 2) dX5_tries_194 rfl ?_
            refine zg_icmpz (tgt := 202) dX5_tries_195 rfl rfl (fun c195 => ?_) (fun c195 => ?_)
            · refine zg_st (pc' := 202) (L' := [some (.inr 0), some (.inl (bI v1)), some (.inl x2), some (.inl (bI x3)), some (.inl x4), some (.inl v5)]) (S' := [.inl v5, .inr 0]) (M' := (mup N 16 v5.toNatClampNeg (bI j5))) rfl rfl rfl rfl ?_
              refine zg_iconst (v := 0) dX5_tries_202 rfl ?_
              refine zg_cVBM (As := [.inl v5, .inl 0]) (S := []) dX5_tries_203 zk_X5_124 (k_X5_tryOut q v5 false (mup N 16 v5.toNatClampNeg (bI j5)) (by first | exact z_hd c143 hx4 hI | exact z_48to53 (z_hd c143 hx4 hI) | exact z_v4 hx4)) rfl rfl ⟨by decide, by decide⟩ ⟨by decide, by decide⟩ rfl (Nat.le_of_ble_eq_true rfl) (fun q7 e_q7 => ?_)
              try dsimp only
              refine zg_st (pc' := 206) (L' := [some (.inr 0), some (.inl (bI v1)), some (.inl x2), some (.inl (bI x3)), some (.inl x4), some (.inl v5)]) (S' := [.inl (bI q7.1)]) (M' := q7.2) rfl rfl rfl rfl ?_
              refine zg_ifbe (tgt := 213) dX5_tries_206 rfl (fun c206 => ?_) (fun c206 => ?_)
              · refine zg_st (pc' := 209) (L' := [some (.inr 0), some (.inl (bI v1)), some (.inl x2), some (.inl (bI x3)), some (.inl x4), some (.inl v5)]) (S' := []) (M' := q7.2) rfl rfl rfl rfl ?_
                refine zg_iconst (v := 1) dX5_tries_209 rfl ?_
                refine zg_goto (tgt := 214) dX5_tries_210 rfl ?_
                refine zg_st (pc' := 214) (L' := [some (.inr 0), some (.inl (bI v1)), some (.inl x2), some (.inl (bI x3)), some (.inl x4), some (.inl v5)]) (S' := [.inl 1]) (M' := q7.2) rfl rfl rfl rfl ?_
                refine zg_istore_n dX5_tries_214 (by decide) ?_
                refine zg_st (pc' := 215) (L' := [some (.inr 0), some (.inl 1), some (.inl x2), some (.inl (bI x3)), some (.inl x4), some (.inl v5)]) (S' := []) (M' := q7.2) rfl rfl rfl rfl ?_
                refine zg_iinc (v := (v5 + 1)) dX5_tries_215 rfl (by decide) rfl ?_
                refine zg_st (pc' := 218) (L' := [some (.inr 0), some (.inl 1), some (.inl x2), some (.inl (bI x3)), some (.inl x4), some (.inl (v5 + 1))]) (S' := []) (M' := q7.2) rfl rfl rfl rfl ?_
                refine zg_goto (tgt := 133) dX5_tries_218 rfl ?_
                refine zg_st (pc' := 133) (L' := [some (.inr 0), some (.inl 1), some (.inl x2), some (.inl (bI x3)), some (.inl x4), some (.inl (v5 + 1))]) (S' := []) (M' := q7.2) rfl rfl rfl rfl ?_
                refine zg_drop (L' := [some (.inr 0), some (.inl 1), some (.inl x2), some (.inl (bI x3)), some (.inl x4), some (.inl (v5 + 1))]) ⟨rfl, rfl, rfl, rfl, rfl, rfl, trivial⟩ ?_
                exact ih true (v5 + 1) q7.2 (z_ge0 c143 hI) (z_up c143 hm)
              · refine zg_st (pc' := 213) (L' := [some (.inr 0), some (.inl (bI v1)), some (.inl x2), some (.inl (bI x3)), some (.inl x4), some (.inl v5)]) (S' := []) (M' := q7.2) rfl rfl rfl rfl ?_
                refine zg_iconst (v := 0) dX5_tries_213 rfl ?_
                refine zg_istore_n dX5_tries_214 (by decide) ?_
                refine zg_st (pc' := 215) (L' := [some (.inr 0), some (.inl 0), some (.inl x2), some (.inl (bI x3)), some (.inl x4), some (.inl v5)]) (S' := []) (M' := q7.2) rfl rfl rfl rfl ?_
                refine zg_iinc (v := (v5 + 1)) dX5_tries_215 rfl (by decide) rfl ?_
                refine zg_st (pc' := 218) (L' := [some (.inr 0), some (.inl 0), some (.inl x2), some (.inl (bI x3)), some (.inl x4), some (.inl (v5 + 1))]) (S' := []) (M' := q7.2) rfl rfl rfl rfl ?_
                refine zg_goto (tgt := 133) dX5_tries_218 rfl ?_
                refine zg_st (pc' := 133) (L' := [some (.inr 0), some (.inl 0), some (.inl x2), some (.inl (bI x3)), some (.inl x4), some (.inl (v5 + 1))]) (S' := []) (M' := q7.2) rfl rfl rfl rfl ?_
                refine zg_drop (L' := [some (.inr 0), some (.inl 0), some (.inl x2), some (.inl (bI x3)), some (.inl x4), some (.inl (v5 + 1))]) ⟨rfl, rfl, rfl, rfl, rfl, rfl, trivial⟩ ?_
                exact ih false (v5 + 1) q7.2 (z_ge0 c143 hI) (z_up c143 hm)
            · refine zg_st (pc' := 198) (L' := [some (.inr 0), some (.inl (bI v1)), some (.inl x2), some (.inl (bI x3)), some (.inl x4), some (.inl v5)]) (S' := [.inl v5, .inr 0]) (M' := (mup N 16 v5.toNatClampNeg (bI j5))) rfl rfl rfl rfl ?_
              refine zg_iconst (v := 1) dX5_tries_198 rfl ?_
              refine zg_goto (tgt := 203) dX5_tries_199 rfl ?_
              refine zg_st (pc' := 203) (L' := [some (.inr 0), some (.inl (bI v1)), some (.inl x2), some (.inl (bI x3)), some (.inl x4), some (.inl v5)]) (S' := [.inl 1, .inl v5, .inr 0]) (M' := (mup N 16 v5.toNatClampNeg (bI j5))) rfl rfl rfl rfl ?_
              refine zg_cVBM (As := [.inl v5, .inl 1]) (S := []) dX5_tries_203 zk_X5_124 (k_X5_tryOut q v5 true (mup N 16 v5.toNatClampNeg (bI j5)) (by first | exact z_hd c143 hx4 hI | exact z_48to53 (z_hd c143 hx4 hI) | exact z_v4 hx4)) rfl rfl ⟨by decide, by decide⟩ ⟨by decide, by decide⟩ rfl (Nat.le_of_ble_eq_true rfl) (fun q8 e_q8 => ?_)
              try dsimp only
              refine zg_st (pc' := 206) (L' := [some (.inr 0), some (.inl (bI v1)), some (.inl x2), some (.inl (bI x3)), some (.inl x4), some (.inl v5)]) (S' := [.inl (bI q8.1)]) (M' := q8.2) rfl rfl rfl rfl ?_
              refine zg_ifbe (tgt := 213) dX5_tries_206 rfl (fun c206 => ?_) (fun c206 => ?_)
              · refine zg_st (pc' := 209) (L' := [some (.inr 0), some (.inl (bI v1)), some (.inl x2), some (.inl (bI x3)), some (.inl x4), some (.inl v5)]) (S' := []) (M' := q8.2) rfl rfl rfl rfl ?_
                refine zg_iconst (v := 1) dX5_tries_209 rfl ?_
                refine zg_goto (tgt := 214) dX5_tries_210 rfl ?_
                refine zg_st (pc' := 214) (L' := [some (.inr 0), some (.inl (bI v1)), some (.inl x2), some (.inl (bI x3)), some (.inl x4), some (.inl v5)]) (S' := [.inl 1]) (M' := q8.2) rfl rfl rfl rfl ?_
                refine zg_istore_n dX5_tries_214 (by decide) ?_
                refine zg_st (pc' := 215) (L' := [some (.inr 0), some (.inl 1), some (.inl x2), some (.inl (bI x3)), some (.inl x4), some (.inl v5)]) (S' := []) (M' := q8.2) rfl rfl rfl rfl ?_
                refine zg_iinc (v := (v5 + 1)) dX5_tries_215 rfl (by decide) rfl ?_
                refine zg_st (pc' := 218) (L' := [some (.inr 0), some (.inl 1), some (.inl x2), some (.inl (bI x3)), some (.inl x4), some (.inl (v5 + 1))]) (S' := []) (M' := q8.2) rfl rfl rfl rfl ?_
                refine zg_goto (tgt := 133) dX5_tries_218 rfl ?_
                refine zg_st (pc' := 133) (L' := [some (.inr 0), some (.inl 1), some (.inl x2), some (.inl (bI x3)), some (.inl x4), some (.inl (v5 + 1))]) (S' := []) (M' := q8.2) rfl rfl rfl rfl ?_
                refine zg_drop (L' := [some (.inr 0), some (.inl 1), some (.inl x2), some (.inl (bI x3)), some (.inl x4), some (.inl (v5 + 1))]) ⟨rfl, rfl, rfl, rfl, rfl, rfl, trivial⟩ ?_
                exact ih true (v5 + 1) q8.2 (z_ge0 c143 hI) (z_up c143 hm)
              · refine zg_st (pc' := 213) (L' := [some (.inr 0), some (.inl (bI v1)), some (.inl x2), some (.inl (bI x3)), some (.inl x4), some (.inl v5)]) (S' := []) (M' := q8.2) rfl rfl rfl rfl ?_
                refine zg_iconst (v := 0) dX5_tries_213 rfl ?_
                refine zg_istore_n dX5_tries_214 (by decide) ?_
                refine zg_st (pc' := 215) (L' := [some (.inr 0), some (.inl 0), some (.inl x2), some (.inl (bI x3)), some (.inl x4), some (.inl v5)]) (S' := []) (M' := q8.2) rfl rfl rfl rfl ?_
                refine zg_iinc (v := (v5 + 1)) dX5_tries_215 rfl (by decide) rfl ?_
                refine zg_st (pc' := 218) (L' := [some (.inr 0), some (.inl 0), some (.inl x2), some (.inl (bI x3)), some (.inl x4), some (.inl (v5 + 1))]) (S' := []) (M' := q8.2) rfl rfl rfl rfl ?_
                refine zg_goto (tgt := 133) dX5_tries_218 rfl ?_
                refine zg_st (pc' := 133) (L' := [some (.inr 0), some (.inl 0), some (.inl x2), some (.inl (bI x3)), some (.inl x4), some (.inl (v5 + 1))]) (S' := []) (M' := q8.2) rfl rfl rfl rfl ?_
                refine zg_drop (L' := [some (.inr 0), some (.inl 0), some (.inl x2), some (.inl (bI x3)), some (.inl x4), some (.inl (v5 + 1))]) ⟨rfl, rfl, rfl, rfl, rfl, rfl, trivial⟩ ?_
                exact ih false (v5 + 1) q8.2 (z_ge0 c143 hI) (z_up c143 hm)
        · refine zg_icmpz (tgt := 171) dX5_tries_164 rfl rfl (fun c164 => ?_) (fun c164 => ?_)
          · refine zg_st (pc' := 171) (L' := [some (.inr 0), some (.inl (bI v1)), some (.inl x2), some (.inl (bI x3)), some (.inl x4), some (.inl v5)]) (S' := [.inl v5, .inr 16]) (M' := N) rfl rfl rfl rfl ?_
            refine zg_iconst (v := 0) dX5_tries_171 rfl ?_
            refine zg_drop (L' := [some (.inr 0), some (.inl (bI v1)), some (.inl x2), some (.inl (bI x3)), some (.inl x4), some (.inl v5)]) ⟨rfl, rfl, rfl, rfl, rfl, rfl, trivial⟩ ?_
            exact J6 false
          · refine zg_st (pc' := 167) (L' := [some (.inr 0), some (.inl (bI v1)), some (.inl x2), some (.inl (bI x3)), some (.inl x4), some (.inl v5)]) (S' := [.inl v5, .inr 16]) (M' := N) rfl rfl rfl rfl ?_
            refine zg_iconst (v := 1) dX5_tries_167 rfl ?_
            refine zg_goto (tgt := 172) dX5_tries_168 rfl ?_
            refine zg_st (pc' := 172) (L' := [some (.inr 0), some (.inl (bI v1)), some (.inl x2), some (.inl (bI x3)), some (.inl x4), some (.inl v5)]) (S' := [.inl 1, .inl v5, .inr 16]) (M' := N) rfl rfl rfl rfl ?_
            refine zg_drop (L' := [some (.inr 0), some (.inl (bI v1)), some (.inl x2), some (.inl (bI x3)), some (.inl x4), some (.inl v5)]) ⟨rfl, rfl, rfl, rfl, rfl, rfl, trivial⟩ ?_
            exact J6 true
      · refine zg_st (pc' := 221) (L' := [some (.inr 0), some (.inl (bI v1)), some (.inl x2), some (.inl (bI x3)), some (.inl x4), some (.inl v5)]) (S' := []) (M' := N) rfl rfl rfl rfl ?_
        refine zg_drop (L' := [some (.inr 0), some (.inl (bI v1)), some (.inl x2), some (.inl (bI x3)), some (.inl x4), some (.inl v5)]) ⟨rfl, rfl, rfl, rfl, rfl, rfl, trivial⟩ ?_
        exact hx (v1, v5, N) hI
def b_X5_tries_75 (rec : Bool → Bool → Bool → Int32 → Mem → Bool × Bool × Bool × Int32 × Mem) (v1 : Bool) (v2 : Bool) (v3 : Bool) (v4 : Int32) (N : Mem) : Bool × Bool × Bool × Int32 × Mem :=
  if 4 ≤ v4 then (v1, v2, v3, v4, N)
  else if v1 then zlet (if v3 then true
      else if (f_X5_hasData v4 N) then true
      else false) (fun (j3 : Bool) =>
    if (f_X5_isChanged v4 N) then zlet (l_X5_tries_133 1 j3 v4 (((((12 * v4) + 12) : Int32).toInt - ((12 * v4) : Int32).toInt).toNat + 1) v1 (12 * v4) (mup N 16 (48 + v4).toNatClampNeg 1)) (fun s9 =>
        if s9.1 then if (f_X5_hasData v4 s9.2.2) then zlet (f_X5_tryOut (48 + v4) true s9.2.2) (fun q10 =>
              if q10.1 then rec true true j3 (v4 + 1) q10.2
                else rec false true j3 (v4 + 1) q10.2)
            else rec true true j3 (v4 + 1) s9.2.2
          else rec false true j3 (v4 + 1) s9.2.2)
      else rec v1 v2 j3 (v4 + 1) N)
  else (v1, v2, v3, v4, N)
def l_X5_tries_75 : Nat → Bool → Bool → Bool → Int32 → Mem → Bool × Bool × Bool × Int32 × Mem
  | 0, v1, v2, v3, v4, N => (v1, v2, v3, v4, N)
  | n + 1, v1, v2, v3, v4, N => b_X5_tries_75 (l_X5_tries_75 n) v1 v2 v3 v4 N
set_option maxRecDepth 100000 in
set_option maxHeartbeats 4000000 in
theorem kl_X5_tries_75 (q : ZQ) {K : Bool × Bool × Bool × Int32 × Mem → ZR} (hx : ∀ e : Bool × Bool × Bool × Int32 × Mem, (0 : Int) ≤ e.2.2.2.1.toInt → Zg (zgM q) mX5_tries 0 0 0 0 (K e) 259 [some (.inr 0), some (.inl (bI e.1)), some (.inl (bI e.2.1)), some (.inl (bI e.2.2.1)), some (.inl e.2.2.2.1), none] [] e.2.2.2.2) :
    ∀ (n : Nat) (v1 : Bool) (v2 : Bool) (v3 : Bool) (v4 : Int32) (N : Mem), (0 : Int) ≤ v4.toInt → ((4 : Int32).toInt - (v4 : Int32).toInt).toNat < n → Zg (zgM q) mX5_tries 0 0 0 0 (zlet (l_X5_tries_75 n v1 v2 v3 v4 N) K) 75 [some (.inr 0), some (.inl (bI v1)), some (.inl (bI v2)), some (.inl (bI v3)), some (.inl v4), none] [] N := by
  intro n
  induction n with
  | zero => intro v1 v2 v3 v4 N hI hm; exact absurd hm (Nat.not_lt_zero _)
  | succ n ih =>
    intro v1 v2 v3 v4 N hI hm
    show Zg _ _ _ _ _ _ (zlet (b_X5_tries_75 (l_X5_tries_75 n) v1 v2 v3 v4 N) K) _ _ _ _
    unfold b_X5_tries_75
    refine zg_iload (x := v4) dX5_tries_75 rfl ?_
    refine zg_iconst (v := 4) dX5_tries_77 rfl ?_
    refine zg_icmpz (tgt := 259) dX5_tries_78 rfl rfl (fun c78 => ?_) (fun c78 => ?_)
    · refine zg_st (pc' := 259) (L' := [some (.inr 0), some (.inl (bI v1)), some (.inl (bI v2)), some (.inl (bI v3)), some (.inl v4), none]) (S' := []) (M' := N) rfl rfl rfl rfl ?_
      refine zg_drop (L' := [some (.inr 0), some (.inl (bI v1)), some (.inl (bI v2)), some (.inl (bI v3)), some (.inl v4), none]) ⟨rfl, rfl, rfl, rfl, rfl, trivial⟩ ?_
      exact hx (v1, v2, v3, v4, N) hI
    · refine zg_st (pc' := 81) (L' := [some (.inr 0), some (.inl (bI v1)), some (.inl (bI v2)), some (.inl (bI v3)), some (.inl v4), none]) (S' := []) (M' := N) rfl rfl rfl rfl ?_
      refine zg_iload_n (x := bI v1) dX5_tries_81 rfl ?_
      refine zg_ifbe (tgt := 259) dX5_tries_82 rfl (fun c82 => ?_) (fun c82 => ?_)
      · refine zg_st (pc' := 85) (L' := [some (.inr 0), some (.inl (bI v1)), some (.inl (bI v2)), some (.inl (bI v3)), some (.inl v4), none]) (S' := []) (M' := N) rfl rfl rfl rfl ?_
        refine zg_iload_n (x := bI v3) dX5_tries_85 rfl ?_
        refine zg_join (pc' := 103) (Lf := fun (j3 : Bool) => [some (.inr 0), some (.inl (bI v1)), some (.inl (bI v2)), some (.inl (bI v3)), some (.inl v4), none]) (Sf := fun j3 => [.inl (bI j3)]) (Mf := fun j3 => N) (fun (j3 : Bool) => ?_) (fun J4 => ?_)
        · try dsimp only
          refine zg_istore_n dX5_tries_103 (by decide) ?_
          refine zg_st (pc' := 104) (L' := [some (.inr 0), some (.inl (bI v1)), some (.inl (bI v2)), some (.inl (bI j3)), some (.inl v4), none]) (S' := []) (M' := N) rfl rfl rfl rfl ?_
          refine zg_aload_n (x := 0) dX5_tries_104 rfl ?_
          refine zg_iload (x := v4) dX5_tries_105 rfl ?_
          refine zg_cV1 (As := [.inl v4]) (S := []) (v := bI ((f_X5_isChanged v4 N))) dX5_tries_107 zk_X5_121 (k_X5_isChanged q v4 N (z_4 c78 hI)) rfl rfl ⟨by decide, by decide⟩ ⟨by decide, by decide⟩ rfl (Nat.le_of_ble_eq_true rfl) ?_
          refine zg_st (pc' := 110) (L' := [some (.inr 0), some (.inl (bI v1)), some (.inl (bI v2)), some (.inl (bI j3)), some (.inl v4), none]) (S' := [.inl (bI ((f_X5_isChanged v4 N)))]) (M' := N) rfl rfl rfl rfl ?_
          refine zg_ifbe (tgt := 253) dX5_tries_110 rfl (fun c110 => ?_) (fun c110 => ?_)
          · refine zg_st (pc' := 113) (L' := [some (.inr 0), some (.inl (bI v1)), some (.inl (bI v2)), some (.inl (bI j3)), some (.inl v4), none]) (S' := []) (M' := N) rfl rfl rfl rfl ?_
            refine zg_iconst (v := 1) dX5_tries_113 rfl ?_
            refine zg_istore_n dX5_tries_114 (by decide) ?_
            refine zg_st (pc' := 115) (L' := [some (.inr 0), some (.inl (bI v1)), some (.inl 1), some (.inl (bI j3)), some (.inl v4), none]) (S' := []) (M' := N) rfl rfl rfl rfl ?_
            refine zg_aload_n (x := 0) dX5_tries_115 rfl ?_
            refine zg_getf (v := .inr 16) dX5_tries_116 zf_X5_60 rfl rfl rfl ?_
            refine zg_bipush (v := 48) dX5_tries_119 rfl ?_
            refine zg_iload (x := v4) dX5_tries_121 rfl ?_
            refine zg_iadd dX5_tries_123 ?_
            refine zg_iconst (v := 1) dX5_tries_124 rfl ?_
            refine zg_zast (v := 1) dX5_tries_125 rfl (z_c53a (z_4 c78 hI)) rfl ?_
            refine zg_bipush (v := 12) dX5_tries_126 rfl ?_
            refine zg_iload (x := v4) dX5_tries_128 rfl ?_
            refine zg_imul dX5_tries_130 ?_
            refine zg_istore dX5_tries_131 (by decide) ?_
            refine zg_st (pc' := 133) (L' := [some (.inr 0), some (.inl (bI v1)), some (.inl 1), some (.inl (bI j3)), some (.inl v4), some (.inl (12 * v4))]) (S' := []) (M' := (mup N 16 (48 + v4).toNatClampNeg 1)) rfl rfl rfl rfl ?_
            refine zg_asc ?_
            refine zg_drop (L' := [some (.inr 0), some (.inl (bI v1)), some (.inl 1), some (.inl (bI j3)), some (.inl v4), some (.inl (12 * v4))]) ⟨rfl, rfl, rfl, rfl, rfl, rfl, trivial⟩ ?_
            refine kl_X5_tries_133 q 1 j3 v4  (z_4 c78 hI) (fun s9 hI_s9 => ?_) (((((12 * v4) + 12) : Int32).toInt - ((12 * v4) : Int32).toInt).toNat + 1) v1 (12 * v4) (mup N 16 (48 + v4).toNatClampNeg 1) (by rw [z12' (z_4 c78 hI)]; omega) (Nat.lt_succ_self _)
            try dsimp only [Sum.elim_inr]
            refine zg_st (pc' := 221) (L' := [some (.inr 0), some (.inl (bI s9.1)), some (.inl 1), some (.inl (bI j3)), some (.inl v4), some (.inl s9.2.1)]) (S' := []) (M' := s9.2.2) rfl rfl rfl rfl ?_
            refine zg_iload_n (x := bI s9.1) dX5_tries_221 rfl ?_
            refine zg_ifbe (tgt := 251) dX5_tries_222 rfl (fun c222 => ?_) (fun c222 => ?_)
            · refine zg_st (pc' := 225) (L' := [some (.inr 0), some (.inl (bI s9.1)), some (.inl 1), some (.inl (bI j3)), some (.inl v4), some (.inl s9.2.1)]) (S' := []) (M' := s9.2.2) rfl rfl rfl rfl ?_
              refine zg_aload_n (x := 0) dX5_tries_225 rfl ?_
              refine zg_iload (x := v4) dX5_tries_226 rfl ?_
              refine zg_cV1 (As := [.inl v4]) (S := []) (v := bI ((f_X5_hasData v4 s9.2.2))) dX5_tries_228 zk_X5_118 (k_X5_hasData q v4 s9.2.2 (z_4 c78 hI)) rfl rfl ⟨by decide, by decide⟩ ⟨by decide, by decide⟩ rfl (Nat.le_of_ble_eq_true rfl) ?_
              refine zg_st (pc' := 231) (L' := [some (.inr 0), some (.inl (bI s9.1)), some (.inl 1), some (.inl (bI j3)), some (.inl v4), some (.inl s9.2.1)]) (S' := [.inl (bI ((f_X5_hasData v4 s9.2.2)))]) (M' := s9.2.2) rfl rfl rfl rfl ?_
              refine zg_ifbe (tgt := 247) dX5_tries_231 rfl (fun c231 => ?_) (fun c231 => ?_)
              · refine zg_st (pc' := 234) (L' := [some (.inr 0), some (.inl (bI s9.1)), some (.inl 1), some (.inl (bI j3)), some (.inl v4), some (.inl s9.2.1)]) (S' := []) (M' := s9.2.2) rfl rfl rfl rfl ?_
                refine zg_aload_n (x := 0) dX5_tries_234 rfl ?_
                refine zg_bipush (v := 48) dX5_tries_235 rfl ?_
                refine zg_iload (x := v4) dX5_tries_237 rfl ?_
                refine zg_iadd dX5_tries_239 ?_
                refine zg_iconst (v := 1) dX5_tries_240 rfl ?_
                refine zg_cVBM (As := [.inl (48 + v4), .inl 1]) (S := []) dX5_tries_241 zk_X5_124 (k_X5_tryOut q (48 + v4) true s9.2.2 (by first | exact z_hd c78 hx4 hI | exact z_48to53 (z_hd c78 hx4 hI) | exact z_v4 hx4)) rfl rfl ⟨by decide, by decide⟩ ⟨by decide, by decide⟩ rfl (Nat.le_of_ble_eq_true rfl) (fun q10 e_q10 => ?_)
                try dsimp only
                refine zg_st (pc' := 244) (L' := [some (.inr 0), some (.inl (bI s9.1)), some (.inl 1), some (.inl (bI j3)), some (.inl v4), some (.inl s9.2.1)]) (S' := [.inl (bI q10.1)]) (M' := q10.2) rfl rfl rfl rfl ?_
                refine zg_ifbe (tgt := 251) dX5_tries_244 rfl (fun c244 => ?_) (fun c244 => ?_)
                · refine zg_st (pc' := 247) (L' := [some (.inr 0), some (.inl (bI s9.1)), some (.inl 1), some (.inl (bI j3)), some (.inl v4), some (.inl s9.2.1)]) (S' := []) (M' := q10.2) rfl rfl rfl rfl ?_
                  refine zg_iconst (v := 1) dX5_tries_247 rfl ?_
                  refine zg_goto (tgt := 252) dX5_tries_248 rfl ?_
                  refine zg_st (pc' := 252) (L' := [some (.inr 0), some (.inl (bI s9.1)), some (.inl 1), some (.inl (bI j3)), some (.inl v4), some (.inl s9.2.1)]) (S' := [.inl 1]) (M' := q10.2) rfl rfl rfl rfl ?_
                  refine zg_istore_n dX5_tries_252 (by decide) ?_
                  refine zg_st (pc' := 253) (L' := [some (.inr 0), some (.inl 1), some (.inl 1), some (.inl (bI j3)), some (.inl v4), some (.inl s9.2.1)]) (S' := []) (M' := q10.2) rfl rfl rfl rfl ?_
                  refine zg_iinc (v := (v4 + 1)) dX5_tries_253 rfl (by decide) rfl ?_
                  refine zg_st (pc' := 256) (L' := [some (.inr 0), some (.inl 1), some (.inl 1), some (.inl (bI j3)), some (.inl (v4 + 1)), some (.inl s9.2.1)]) (S' := []) (M' := q10.2) rfl rfl rfl rfl ?_
                  refine zg_goto (tgt := 75) dX5_tries_256 rfl ?_
                  refine zg_st (pc' := 75) (L' := [some (.inr 0), some (.inl 1), some (.inl 1), some (.inl (bI j3)), some (.inl (v4 + 1)), some (.inl s9.2.1)]) (S' := []) (M' := q10.2) rfl rfl rfl rfl ?_
                  refine zg_drop (L' := [some (.inr 0), some (.inl 1), some (.inl 1), some (.inl (bI j3)), some (.inl (v4 + 1)), none]) ⟨rfl, rfl, rfl, rfl, rfl, trivial⟩ ?_
                  exact ih true true j3 (v4 + 1) q10.2 (z_ge0 c78 hI) (z_up c78 hm)
                · refine zg_st (pc' := 251) (L' := [some (.inr 0), some (.inl (bI s9.1)), some (.inl 1), some (.inl (bI j3)), some (.inl v4), some (.inl s9.2.1)]) (S' := []) (M' := q10.2) rfl rfl rfl rfl ?_
                  refine zg_iconst (v := 0) dX5_tries_251 rfl ?_
                  refine zg_istore_n dX5_tries_252 (by decide) ?_
                  refine zg_st (pc' := 253) (L' := [some (.inr 0), some (.inl 0), some (.inl 1), some (.inl (bI j3)), some (.inl v4), some (.inl s9.2.1)]) (S' := []) (M' := q10.2) rfl rfl rfl rfl ?_
                  refine zg_iinc (v := (v4 + 1)) dX5_tries_253 rfl (by decide) rfl ?_
                  refine zg_st (pc' := 256) (L' := [some (.inr 0), some (.inl 0), some (.inl 1), some (.inl (bI j3)), some (.inl (v4 + 1)), some (.inl s9.2.1)]) (S' := []) (M' := q10.2) rfl rfl rfl rfl ?_
                  refine zg_goto (tgt := 75) dX5_tries_256 rfl ?_
                  refine zg_st (pc' := 75) (L' := [some (.inr 0), some (.inl 0), some (.inl 1), some (.inl (bI j3)), some (.inl (v4 + 1)), some (.inl s9.2.1)]) (S' := []) (M' := q10.2) rfl rfl rfl rfl ?_
                  refine zg_drop (L' := [some (.inr 0), some (.inl 0), some (.inl 1), some (.inl (bI j3)), some (.inl (v4 + 1)), none]) ⟨rfl, rfl, rfl, rfl, rfl, trivial⟩ ?_
                  exact ih false true j3 (v4 + 1) q10.2 (z_ge0 c78 hI) (z_up c78 hm)
              · refine zg_st (pc' := 247) (L' := [some (.inr 0), some (.inl (bI s9.1)), some (.inl 1), some (.inl (bI j3)), some (.inl v4), some (.inl s9.2.1)]) (S' := []) (M' := s9.2.2) rfl rfl rfl rfl ?_
                refine zg_iconst (v := 1) dX5_tries_247 rfl ?_
                refine zg_goto (tgt := 252) dX5_tries_248 rfl ?_
                refine zg_st (pc' := 252) (L' := [some (.inr 0), some (.inl (bI s9.1)), some (.inl 1), some (.inl (bI j3)), some (.inl v4), some (.inl s9.2.1)]) (S' := [.inl 1]) (M' := s9.2.2) rfl rfl rfl rfl ?_
                refine zg_istore_n dX5_tries_252 (by decide) ?_
                refine zg_st (pc' := 253) (L' := [some (.inr 0), some (.inl 1), some (.inl 1), some (.inl (bI j3)), some (.inl v4), some (.inl s9.2.1)]) (S' := []) (M' := s9.2.2) rfl rfl rfl rfl ?_
                refine zg_iinc (v := (v4 + 1)) dX5_tries_253 rfl (by decide) rfl ?_
                refine zg_st (pc' := 256) (L' := [some (.inr 0), some (.inl 1), some (.inl 1), some (.inl (bI j3)), some (.inl (v4 + 1)), some (.inl s9.2.1)]) (S' := []) (M' := s9.2.2) rfl rfl rfl rfl ?_
                refine zg_goto (tgt := 75) dX5_tries_256 rfl ?_
                refine zg_st (pc' := 75) (L' := [some (.inr 0), some (.inl 1), some (.inl 1), some (.inl (bI j3)), some (.inl (v4 + 1)), some (.inl s9.2.1)]) (S' := []) (M' := s9.2.2) rfl rfl rfl rfl ?_
                refine zg_drop (L' := [some (.inr 0), some (.inl 1), some (.inl 1), some (.inl (bI j3)), some (.inl (v4 + 1)), none]) ⟨rfl, rfl, rfl, rfl, rfl, trivial⟩ ?_
                exact ih true true j3 (v4 + 1) s9.2.2 (z_ge0 c78 hI) (z_up c78 hm)
            · refine zg_st (pc' := 251) (L' := [some (.inr 0), some (.inl (bI s9.1)), some (.inl 1), some (.inl (bI j3)), some (.inl v4), some (.inl s9.2.1)]) (S' := []) (M' := s9.2.2) rfl rfl rfl rfl ?_
              refine zg_iconst (v := 0) dX5_tries_251 rfl ?_
              refine zg_istore_n dX5_tries_252 (by decide) ?_
              refine zg_st (pc' := 253) (L' := [some (.inr 0), some (.inl 0), some (.inl 1), some (.inl (bI j3)), some (.inl v4), some (.inl s9.2.1)]) (S' := []) (M' := s9.2.2) rfl rfl rfl rfl ?_
              refine zg_iinc (v := (v4 + 1)) dX5_tries_253 rfl (by decide) rfl ?_
              refine zg_st (pc' := 256) (L' := [some (.inr 0), some (.inl 0), some (.inl 1), some (.inl (bI j3)), some (.inl (v4 + 1)), some (.inl s9.2.1)]) (S' := []) (M' := s9.2.2) rfl rfl rfl rfl ?_
              refine zg_goto (tgt := 75) dX5_tries_256 rfl ?_
              refine zg_st (pc' := 75) (L' := [some (.inr 0), some (.inl 0), some (.inl 1), some (.inl (bI j3)), some (.inl (v4 + 1)), some (.inl s9.2.1)]) (S' := []) (M' := s9.2.2) rfl rfl rfl rfl ?_
              refine zg_drop (L' := [some (.inr 0), some (.inl 0), some (.inl 1), some (.inl (bI j3)), some (.inl (v4 + 1)), none]) ⟨rfl, rfl, rfl, rfl, rfl, trivial⟩ ?_
              exact ih false true j3 (v4 + 1) s9.2.2 (z_ge0 c78 hI) (z_up c78 hm)
          · refine zg_st (pc' := 253) (L' := [some (.inr 0), some (.inl (bI v1)), some (.inl (bI v2)), some (.inl (bI j3)), some (.inl v4), none]) (S' := []) (M' := N) rfl rfl rfl rfl ?_
            refine zg_iinc (v := (v4 + 1)) dX5_tries_253 rfl (by decide) rfl ?_
            refine zg_st (pc' := 256) (L' := [some (.inr 0), some (.inl (bI v1)), some (.inl (bI v2)), some (.inl (bI j3)), some (.inl (v4 + 1)), none]) (S' := []) (M' := N) rfl rfl rfl rfl ?_
            refine zg_goto (tgt := 75) dX5_tries_256 rfl ?_
            refine zg_st (pc' := 75) (L' := [some (.inr 0), some (.inl (bI v1)), some (.inl (bI v2)), some (.inl (bI j3)), some (.inl (v4 + 1)), none]) (S' := []) (M' := N) rfl rfl rfl rfl ?_
            refine zg_drop (L' := [some (.inr 0), some (.inl (bI v1)), some (.inl (bI v2)), some (.inl (bI j3)), some (.inl (v4 + 1)), none]) ⟨rfl, rfl, rfl, rfl, rfl, trivial⟩ ?_
            exact ih v1 v2 j3 (v4 + 1) N (z_ge0 c78 hI) (z_up c78 hm)
        · refine zg_ifbn (tgt := 98) dX5_tries_86 rfl (fun c86 => ?_) (fun c86 => ?_)
          · refine zg_st (pc' := 98) (L' := [some (.inr 0), some (.inl (bI v1)), some (.inl (bI v2)), some (.inl (bI v3)), some (.inl v4), none]) (S' := []) (M' := N) rfl rfl rfl rfl ?_
            refine zg_iconst (v := 1) dX5_tries_98 rfl ?_
            refine zg_goto (tgt := 103) dX5_tries_99 rfl ?_
            refine zg_st (pc' := 103) (L' := [some (.inr 0), some (.inl (bI v1)), some (.inl (bI v2)), some (.inl (bI v3)), some (.inl v4), none]) (S' := [.inl 1]) (M' := N) rfl rfl rfl rfl ?_
            refine zg_drop (L' := [some (.inr 0), some (.inl (bI v1)), some (.inl (bI v2)), some (.inl (bI v3)), some (.inl v4), none]) ⟨rfl, rfl, rfl, rfl, rfl, trivial⟩ ?_
            exact J4 true
          · refine zg_st (pc' := 89) (L' := [some (.inr 0), some (.inl (bI v1)), some (.inl (bI v2)), some (.inl (bI v3)), some (.inl v4), none]) (S' := []) (M' := N) rfl rfl rfl rfl ?_
            refine zg_aload_n (x := 0) dX5_tries_89 rfl ?_
            refine zg_iload (x := v4) dX5_tries_90 rfl ?_
            refine zg_cV1 (As := [.inl v4]) (S := []) (v := bI ((f_X5_hasData v4 N))) dX5_tries_92 zk_X5_118 (k_X5_hasData q v4 N (z_4 c78 hI)) rfl rfl ⟨by decide, by decide⟩ ⟨by decide, by decide⟩ rfl (Nat.le_of_ble_eq_true rfl) ?_
            refine zg_st (pc' := 95) (L' := [some (.inr 0), some (.inl (bI v1)), some (.inl (bI v2)), some (.inl (bI v3)), some (.inl v4), none]) (S' := [.inl (bI ((f_X5_hasData v4 N)))]) (M' := N) rfl rfl rfl rfl ?_
            refine zg_ifbe (tgt := 102) dX5_tries_95 rfl (fun c95 => ?_) (fun c95 => ?_)
            · refine zg_st (pc' := 98) (L' := [some (.inr 0), some (.inl (bI v1)), some (.inl (bI v2)), some (.inl (bI v3)), some (.inl v4), none]) (S' := []) (M' := N) rfl rfl rfl rfl ?_
              refine zg_iconst (v := 1) dX5_tries_98 rfl ?_
              refine zg_goto (tgt := 103) dX5_tries_99 rfl ?_
              refine zg_st (pc' := 103) (L' := [some (.inr 0), some (.inl (bI v1)), some (.inl (bI v2)), some (.inl (bI v3)), some (.inl v4), none]) (S' := [.inl 1]) (M' := N) rfl rfl rfl rfl ?_
              refine zg_drop (L' := [some (.inr 0), some (.inl (bI v1)), some (.inl (bI v2)), some (.inl (bI v3)), some (.inl v4), none]) ⟨rfl, rfl, rfl, rfl, rfl, trivial⟩ ?_
              exact J4 true
            · refine zg_st (pc' := 102) (L' := [some (.inr 0), some (.inl (bI v1)), some (.inl (bI v2)), some (.inl (bI v3)), some (.inl v4), none]) (S' := []) (M' := N) rfl rfl rfl rfl ?_
              refine zg_iconst (v := 0) dX5_tries_102 rfl ?_
              refine zg_drop (L' := [some (.inr 0), some (.inl (bI v1)), some (.inl (bI v2)), some (.inl (bI v3)), some (.inl v4), none]) ⟨rfl, rfl, rfl, rfl, rfl, trivial⟩ ?_
              exact J4 false
      · refine zg_st (pc' := 259) (L' := [some (.inr 0), some (.inl (bI v1)), some (.inl (bI v2)), some (.inl (bI v3)), some (.inl v4), none]) (S' := []) (M' := N) rfl rfl rfl rfl ?_
        refine zg_drop (L' := [some (.inr 0), some (.inl (bI v1)), some (.inl (bI v2)), some (.inl (bI v3)), some (.inl v4), none]) ⟨rfl, rfl, rfl, rfl, rfl, trivial⟩ ?_
        exact hx (v1, v2, v3, v4, N) hI
def f_X5_tries (M : Mem) : (Bool × Mem) :=
  zlet (l_X5_tries_7 121 0 (mup M 0 19 0)) (fun s1 =>
  zlet (l_X5_tries_33 54 0 s1.2) (fun s2 =>
    zlet (l_X5_tries_75 5 true false false 0 s2.2) (fun s11 =>
      if s11.1 then if s11.2.1 then if s11.2.2.1 then zlet (f_X5_tryOut 52 true (mup s11.2.2.2.2 16 (52 : Int32).toNatClampNeg (bI s11.2.1))) (fun q12 =>
              if q12.1 then (true, q12.2)
                else (false, q12.2))
            else (true, (mup s11.2.2.2.2 16 (52 : Int32).toNatClampNeg (bI s11.2.1)))
          else (true, (mup s11.2.2.2.2 16 (52 : Int32).toNatClampNeg (bI s11.2.1)))
        else (false, (mup s11.2.2.2.2 16 (52 : Int32).toNatClampNeg (bI s11.2.1))))))
set_option maxRecDepth 100000 in
set_option maxHeartbeats 4000000 in
theorem k_X5_tries (q : ZQ) (M : Mem) : Zc (zgM q) mX5_tries 0 0 [.inr 0] M (wBM (f_X5_tries M)) := by
  refine Zc.of (by decide) zi_X5_tries.1 (Nat.le_of_ble_eq_true rfl) rfl ?_
  show Zg _ _ _ _ _ _ (zlet (f_X5_tries M) wBM) _ _ _ _
  unfold f_X5_tries
  refine zg_aload_n (x := 0) dX5_tries_0 rfl ?_
  refine zg_iconst (v := 0) dX5_tries_1 rfl ?_
  refine zg_putf dX5_tries_2 zp_X5_112 rfl rfl ?_
  refine zg_iconst (v := 0) dX5_tries_5 rfl ?_
  refine zg_istore_n dX5_tries_6 (by decide) ?_
  refine zg_st (pc' := 7) (L' := [some (.inr 0), some (.inl 0), none, none, none, none]) (S' := []) (M' := (mup M 0 19 0)) rfl rfl rfl rfl ?_
  refine zg_asc ?_
  refine zg_drop (L' := [some (.inr 0), some (.inl 0), none, none, none, none]) ⟨rfl, rfl, trivial⟩ ?_
  refine kl_X5_tries_7 q  (fun s1 hI_s1 => ?_) 121 0 (mup M 0 19 0) (by decide) (by decide)
  try dsimp only [Sum.elim_inr]
  refine zg_st (pc' := 31) (L' := [some (.inr 0), some (.inl s1.1), none, none, none, none]) (S' := []) (M' := s1.2) rfl rfl rfl rfl ?_
  refine zg_iconst (v := 0) dX5_tries_31 rfl ?_
  refine zg_istore_n dX5_tries_32 (by decide) ?_
  refine zg_st (pc' := 33) (L' := [some (.inr 0), some (.inl 0), none, none, none, none]) (S' := []) (M' := s1.2) rfl rfl rfl rfl ?_
  refine zg_asc ?_
  refine zg_drop (L' := [some (.inr 0), some (.inl 0), none, none, none, none]) ⟨rfl, rfl, trivial⟩ ?_
  refine kl_X5_tries_33 q  (fun s2 hI_s2 => ?_) 54 0 s1.2 (by decide) (by decide)
  try dsimp only [Sum.elim_inr]
  refine zg_st (pc' := 66) (L' := [some (.inr 0), some (.inl s2.1), none, none, none, none]) (S' := []) (M' := s2.2) rfl rfl rfl rfl ?_
  refine zg_iconst (v := 1) dX5_tries_66 rfl ?_
  refine zg_istore_n dX5_tries_67 (by decide) ?_
  refine zg_st (pc' := 68) (L' := [some (.inr 0), some (.inl 1), none, none, none, none]) (S' := []) (M' := s2.2) rfl rfl rfl rfl ?_
  refine zg_iconst (v := 0) dX5_tries_68 rfl ?_
  refine zg_istore_n dX5_tries_69 (by decide) ?_
  refine zg_st (pc' := 70) (L' := [some (.inr 0), some (.inl 1), some (.inl 0), none, none, none]) (S' := []) (M' := s2.2) rfl rfl rfl rfl ?_
  refine zg_iconst (v := 0) dX5_tries_70 rfl ?_
  refine zg_istore_n dX5_tries_71 (by decide) ?_
  refine zg_st (pc' := 72) (L' := [some (.inr 0), some (.inl 1), some (.inl 0), some (.inl 0), none, none]) (S' := []) (M' := s2.2) rfl rfl rfl rfl ?_
  refine zg_iconst (v := 0) dX5_tries_72 rfl ?_
  refine zg_istore dX5_tries_73 (by decide) ?_
  refine zg_st (pc' := 75) (L' := [some (.inr 0), some (.inl 1), some (.inl 0), some (.inl 0), some (.inl 0), none]) (S' := []) (M' := s2.2) rfl rfl rfl rfl ?_
  refine zg_asc ?_
  refine zg_drop (L' := [some (.inr 0), some (.inl 1), some (.inl 0), some (.inl 0), some (.inl 0), none]) ⟨rfl, rfl, rfl, rfl, rfl, trivial⟩ ?_
  refine kl_X5_tries_75 q  (fun s11 hI_s11 => ?_) 5 true false false 0 s2.2 (by decide) (by decide)
  try dsimp only [Sum.elim_inr]
  refine zg_st (pc' := 259) (L' := [some (.inr 0), some (.inl (bI s11.1)), some (.inl (bI s11.2.1)), some (.inl (bI s11.2.2.1)), some (.inl s11.2.2.2.1), none]) (S' := []) (M' := s11.2.2.2.2) rfl rfl rfl rfl ?_
  refine zg_aload_n (x := 0) dX5_tries_259 rfl ?_
  refine zg_getf (v := .inr 16) dX5_tries_260 zf_X5_60 rfl rfl rfl ?_
  refine zg_bipush (v := 52) dX5_tries_263 rfl ?_
  refine zg_iload_n (x := bI s11.2.1) dX5_tries_265 rfl ?_
  refine zg_zast (v := bI s11.2.1) dX5_tries_266 rfl z_52 (bI_vp _) ?_
  refine zg_iload_n (x := bI s11.1) dX5_tries_267 rfl ?_
  refine zg_ifbe (tgt := 293) dX5_tries_268 rfl (fun c268 => ?_) (fun c268 => ?_)
  · refine zg_st (pc' := 271) (L' := [some (.inr 0), some (.inl (bI s11.1)), some (.inl (bI s11.2.1)), some (.inl (bI s11.2.2.1)), some (.inl s11.2.2.2.1), none]) (S' := []) (M' := (mup s11.2.2.2.2 16 (52 : Int32).toNatClampNeg (bI s11.2.1))) rfl rfl rfl rfl ?_
    refine zg_iload_n (x := bI s11.2.1) dX5_tries_271 rfl ?_
    refine zg_ifbe (tgt := 289) dX5_tries_272 rfl (fun c272 => ?_) (fun c272 => ?_)
    · refine zg_st (pc' := 275) (L' := [some (.inr 0), some (.inl (bI s11.1)), some (.inl (bI s11.2.1)), some (.inl (bI s11.2.2.1)), some (.inl s11.2.2.2.1), none]) (S' := []) (M' := (mup s11.2.2.2.2 16 (52 : Int32).toNatClampNeg (bI s11.2.1))) rfl rfl rfl rfl ?_
      refine zg_iload_n (x := bI s11.2.2.1) dX5_tries_275 rfl ?_
      refine zg_ifbe (tgt := 289) dX5_tries_276 rfl (fun c276 => ?_) (fun c276 => ?_)
      · refine zg_st (pc' := 279) (L' := [some (.inr 0), some (.inl (bI s11.1)), some (.inl (bI s11.2.1)), some (.inl (bI s11.2.2.1)), some (.inl s11.2.2.2.1), none]) (S' := []) (M' := (mup s11.2.2.2.2 16 (52 : Int32).toNatClampNeg (bI s11.2.1))) rfl rfl rfl rfl ?_
        refine zg_aload_n (x := 0) dX5_tries_279 rfl ?_
        refine zg_bipush (v := 52) dX5_tries_280 rfl ?_
        refine zg_iconst (v := 1) dX5_tries_282 rfl ?_
        refine zg_cVBM (As := [.inl 52, .inl 1]) (S := []) dX5_tries_283 zk_X5_124 (k_X5_tryOut q 52 true (mup s11.2.2.2.2 16 (52 : Int32).toNatClampNeg (bI s11.2.1)) (by first | exact z_hd @c hx4 hI | exact z_48to53 (z_hd @c hx4 hI) | exact z_v4 hx4)) rfl rfl ⟨by decide, by decide⟩ ⟨by decide, by decide⟩ rfl (Nat.le_of_ble_eq_true rfl) (fun q12 e_q12 => ?_)
        try dsimp only
        refine zg_st (pc' := 286) (L' := [some (.inr 0), some (.inl (bI s11.1)), some (.inl (bI s11.2.1)), some (.inl (bI s11.2.2.1)), some (.inl s11.2.2.2.1), none]) (S' := [.inl (bI q12.1)]) (M' := q12.2) rfl rfl rfl rfl ?_
        refine zg_ifbe (tgt := 293) dX5_tries_286 rfl (fun c286 => ?_) (fun c286 => ?_)
        · refine zg_st (pc' := 289) (L' := [some (.inr 0), some (.inl (bI s11.1)), some (.inl (bI s11.2.1)), some (.inl (bI s11.2.2.1)), some (.inl s11.2.2.2.1), none]) (S' := []) (M' := q12.2) rfl rfl rfl rfl ?_
          refine zg_iconst (v := 1) dX5_tries_289 rfl ?_
          refine zg_goto (tgt := 294) dX5_tries_290 rfl ?_
          refine zg_st (pc' := 294) (L' := [some (.inr 0), some (.inl (bI s11.1)), some (.inl (bI s11.2.1)), some (.inl (bI s11.2.2.1)), some (.inl s11.2.2.2.1), none]) (S' := [.inl 1]) (M' := q12.2) rfl rfl rfl rfl ?_
          exact zg_iret dX5_tries_294 rfl rfl ⟨by decide, by decide⟩ rfl
        · refine zg_st (pc' := 293) (L' := [some (.inr 0), some (.inl (bI s11.1)), some (.inl (bI s11.2.1)), some (.inl (bI s11.2.2.1)), some (.inl s11.2.2.2.1), none]) (S' := []) (M' := q12.2) rfl rfl rfl rfl ?_
          refine zg_iconst (v := 0) dX5_tries_293 rfl ?_
          exact zg_iret dX5_tries_294 rfl rfl ⟨by decide, by decide⟩ rfl
      · refine zg_st (pc' := 289) (L' := [some (.inr 0), some (.inl (bI s11.1)), some (.inl (bI s11.2.1)), some (.inl (bI s11.2.2.1)), some (.inl s11.2.2.2.1), none]) (S' := []) (M' := (mup s11.2.2.2.2 16 (52 : Int32).toNatClampNeg (bI s11.2.1))) rfl rfl rfl rfl ?_
        refine zg_iconst (v := 1) dX5_tries_289 rfl ?_
        refine zg_goto (tgt := 294) dX5_tries_290 rfl ?_
        refine zg_st (pc' := 294) (L' := [some (.inr 0), some (.inl (bI s11.1)), some (.inl (bI s11.2.1)), some (.inl (bI s11.2.2.1)), some (.inl s11.2.2.2.1), none]) (S' := [.inl 1]) (M' := (mup s11.2.2.2.2 16 (52 : Int32).toNatClampNeg (bI s11.2.1))) rfl rfl rfl rfl ?_
        exact zg_iret dX5_tries_294 rfl rfl ⟨by decide, by decide⟩ rfl
    · refine zg_st (pc' := 289) (L' := [some (.inr 0), some (.inl (bI s11.1)), some (.inl (bI s11.2.1)), some (.inl (bI s11.2.2.1)), some (.inl s11.2.2.2.1), none]) (S' := []) (M' := (mup s11.2.2.2.2 16 (52 : Int32).toNatClampNeg (bI s11.2.1))) rfl rfl rfl rfl ?_
      refine zg_iconst (v := 1) dX5_tries_289 rfl ?_
      refine zg_goto (tgt := 294) dX5_tries_290 rfl ?_
      refine zg_st (pc' := 294) (L' := [some (.inr 0), some (.inl (bI s11.1)), some (.inl (bI s11.2.1)), some (.inl (bI s11.2.2.1)), some (.inl s11.2.2.2.1), none]) (S' := [.inl 1]) (M' := (mup s11.2.2.2.2 16 (52 : Int32).toNatClampNeg (bI s11.2.1))) rfl rfl rfl rfl ?_
      exact zg_iret dX5_tries_294 rfl rfl ⟨by decide, by decide⟩ rfl
  · refine zg_st (pc' := 293) (L' := [some (.inr 0), some (.inl (bI s11.1)), some (.inl (bI s11.2.1)), some (.inl (bI s11.2.2.1)), some (.inl s11.2.2.2.1), none]) (S' := []) (M' := (mup s11.2.2.2.2 16 (52 : Int32).toNatClampNeg (bI s11.2.1))) rfl rfl rfl rfl ?_
    refine zg_iconst (v := 0) dX5_tries_293 rfl ?_
    exact zg_iret dX5_tries_294 rfl rfl ⟨by decide, by decide⟩ rfl
theorem dX5_mark_0 : decode cX5_mark 0 = .ok (.iload_n 1, 1) := by decide +kernel
theorem dX5_mark_1 : decode cX5_mark 1 = .ok (.iconst (-1), 1) := by decide +kernel
theorem dX5_mark_2 : decode cX5_mark 2 = .ok (.if_icmp .eq 10, 3) := by decide +kernel
theorem dX5_mark_5 : decode cX5_mark 5 = .ok (.aload_n 0, 1) := by decide +kernel
theorem dX5_mark_6 : decode cX5_mark 6 = .ok (.getfield 51, 3) := by decide +kernel
theorem dX5_mark_9 : decode cX5_mark 9 = .ok (.iload_n 1, 1) := by decide +kernel
theorem dX5_mark_10 : decode cX5_mark 10 = .ok (.iconst 1, 1) := by decide +kernel
theorem dX5_mark_11 : decode cX5_mark 11 = .ok (.bastore, 1) := by decide +kernel
theorem dX5_mark_12 : decode cX5_mark 12 = .ok (.return_, 1) := by decide +kernel
def f_X5_mark (p1 : Int32) (M : Mem) : Mem :=
  if p1 = (-1) then M
  else (mup M 13 p1.toNatClampNeg 1)
set_option maxRecDepth 100000 in
set_option maxHeartbeats 4000000 in
theorem k_X5_mark (q : ZQ) (p1 : Int32) (M : Mem) (hp : -1 ≤ p1.toInt ∧ p1.toInt < 120) : Zc (zgM q) mX5_mark 0 0 [.inr 0, .inl p1] M (wV (f_X5_mark p1 M)) := by
  refine Zc.of (by decide) zi_X5_mark.1 (Nat.le_of_ble_eq_true rfl) rfl ?_
  show Zg _ _ _ _ _ _ (zlet (f_X5_mark p1 M) wV) _ _ _ _
  unfold f_X5_mark
  refine zg_iload_n (x := p1) dX5_mark_0 rfl ?_
  refine zg_iconst (v := (-1)) dX5_mark_1 rfl ?_
  refine zg_icmpz (tgt := 12) dX5_mark_2 rfl rfl (fun c2 => ?_) (fun c2 => ?_)
  · refine zg_st (pc' := 12) (L' := [some (.inr 0), some (.inl p1)]) (S' := []) (M' := M) rfl rfl rfl rfl ?_
    exact zg_vret dX5_mark_12 rfl ⟨by decide, by decide⟩ rfl
  · refine zg_st (pc' := 5) (L' := [some (.inr 0), some (.inl p1)]) (S' := []) (M' := M) rfl rfl rfl rfl ?_
    refine zg_aload_n (x := 0) dX5_mark_5 rfl ?_
    refine zg_getf (v := .inr 13) dX5_mark_6 zf_X5_51 rfl rfl rfl ?_
    refine zg_iload_n (x := p1) dX5_mark_9 rfl ?_
    refine zg_iconst (v := 1) dX5_mark_10 rfl ?_
    refine zg_zast (v := 1) dX5_mark_11 rfl (z_nn hp c2) rfl ?_
    exact zg_vret dX5_mark_12 rfl ⟨by decide, by decide⟩ rfl
theorem dX5_clean_0 : decode cX5_clean 0 = .ok (.iconst 0, 1) := by decide +kernel
theorem dX5_clean_1 : decode cX5_clean 1 = .ok (.istore_n 2, 1) := by decide +kernel
theorem dX5_clean_2 : decode cX5_clean 2 = .ok (.iload_n 2, 1) := by decide +kernel
theorem dX5_clean_3 : decode cX5_clean 3 = .ok (.iconst 2, 1) := by decide +kernel
theorem dX5_clean_4 : decode cX5_clean 4 = .ok (.if_icmp .ge 41, 3) := by decide +kernel
theorem dX5_clean_7 : decode cX5_clean 7 = .ok (.iload_n 1, 1) := by decide +kernel
theorem dX5_clean_8 : decode cX5_clean 8 = .ok (.iconst (-1), 1) := by decide +kernel
theorem dX5_clean_9 : decode cX5_clean 9 = .ok (.if_icmp .eq 36, 3) := by decide +kernel
theorem dX5_clean_12 : decode cX5_clean 12 = .ok (.aload_n 0, 1) := by decide +kernel
theorem dX5_clean_13 : decode cX5_clean 13 = .ok (.getfield 42, 3) := by decide +kernel
theorem dX5_clean_16 : decode cX5_clean 16 = .ok (.iconst 2, 1) := by decide +kernel
theorem dX5_clean_17 : decode cX5_clean 17 = .ok (.iload_n 1, 1) := by decide +kernel
theorem dX5_clean_18 : decode cX5_clean 18 = .ok (.bipush 40, 2) := by decide +kernel
theorem dX5_clean_20 : decode cX5_clean 20 = .ok (.idiv, 1) := by decide +kernel
theorem dX5_clean_21 : decode cX5_clean 21 = .ok (.imul, 1) := by decide +kernel
theorem dX5_clean_22 : decode cX5_clean 22 = .ok (.iload_n 2, 1) := by decide +kernel
theorem dX5_clean_23 : decode cX5_clean 23 = .ok (.iadd, 1) := by decide +kernel
theorem dX5_clean_24 : decode cX5_clean 24 = .ok (.baload, 1) := by decide +kernel
theorem dX5_clean_25 : decode cX5_clean 25 = .ok (.ifCond .ne 14, 3) := by decide +kernel
theorem dX5_clean_28 : decode cX5_clean 28 = .ok (.aload_n 0, 1) := by decide +kernel
theorem dX5_clean_29 : decode cX5_clean 29 = .ok (.getfield 39, 3) := by decide +kernel
theorem dX5_clean_32 : decode cX5_clean 32 = .ok (.iconst 2, 1) := by decide +kernel
theorem dX5_clean_33 : decode cX5_clean 33 = .ok (.iload_n 1, 1) := by decide +kernel
theorem dX5_clean_34 : decode cX5_clean 34 = .ok (.imul, 1) := by decide +kernel
theorem dX5_clean_35 : decode cX5_clean 35 = .ok (.iload_n 2, 1) := by decide +kernel
theorem dX5_clean_36 : decode cX5_clean 36 = .ok (.iadd, 1) := by decide +kernel
theorem dX5_clean_37 : decode cX5_clean 37 = .ok (.iconst 0, 1) := by decide +kernel
theorem dX5_clean_38 : decode cX5_clean 38 = .ok (.bastore, 1) := by decide +kernel
theorem dX5_clean_39 : decode cX5_clean 39 = .ok (.iinc 2 1, 3) := by decide +kernel
theorem dX5_clean_42 : decode cX5_clean 42 = .ok (.goto (-40), 3) := by decide +kernel
theorem dX5_clean_45 : decode cX5_clean 45 = .ok (.return_, 1) := by decide +kernel
def b_X5_clean_2 (x1 : Int32) (rec : Int32 → Mem → Int32 × Mem) (v2 : Int32) (N : Mem) : Int32 × Mem :=
  if 2 ≤ v2 then (v2, N)
  else if x1 = (-1) then (v2, N)
  else if ¬ (N 10 ((2 * (x1 / 40)) + v2).toNatClampNeg) = 0 then rec (v2 + 1) N
  else rec (v2 + 1) (mup N 9 ((2 * x1) + v2).toNatClampNeg 0)
def l_X5_clean_2 (x1 : Int32) : Nat → Int32 → Mem → Int32 × Mem
  | 0, v2, N => (v2, N)
  | n + 1, v2, N => b_X5_clean_2 x1 (l_X5_clean_2 x1 n) v2 N
set_option maxRecDepth 100000 in
set_option maxHeartbeats 4000000 in
theorem kl_X5_clean_2 (q : ZQ) (x1 : Int32) (hx1 : -1 ≤ x1.toInt ∧ x1.toInt < 120) {K : Int32 × Mem → ZR} (hx : ∀ e : Int32 × Mem, (0 : Int) ≤ e.1.toInt → Zg (zgM q) mX5_clean 0 0 0 0 (K e) 45 [some (.inr 0), some (.inl x1), some (.inl e.1)] [] e.2) :
    ∀ (n : Nat) (v2 : Int32) (N : Mem), (0 : Int) ≤ v2.toInt → ((2 : Int32).toInt - (v2 : Int32).toInt).toNat < n → Zg (zgM q) mX5_clean 0 0 0 0 (zlet (l_X5_clean_2 x1 n v2 N) K) 2 [some (.inr 0), some (.inl x1), some (.inl v2)] [] N := by
  intro n
  induction n with
  | zero => intro v2 N hI hm; exact absurd hm (Nat.not_lt_zero _)
  | succ n ih =>
    intro v2 N hI hm
    show Zg _ _ _ _ _ _ (zlet (b_X5_clean_2 x1 (l_X5_clean_2 x1 n) v2 N) K) _ _ _ _
    unfold b_X5_clean_2
    refine zg_iload_n (x := v2) dX5_clean_2 rfl ?_
    refine zg_iconst (v := 2) dX5_clean_3 rfl ?_
    refine zg_icmpz (tgt := 45) dX5_clean_4 rfl rfl (fun c4 => ?_) (fun c4 => ?_)
    · refine zg_st (pc' := 45) (L' := [some (.inr 0), some (.inl x1), some (.inl v2)]) (S' := []) (M' := N) rfl rfl rfl rfl ?_
      refine zg_drop (L' := [some (.inr 0), some (.inl x1), some (.inl v2)]) ⟨rfl, rfl, rfl, trivial⟩ ?_
      exact hx (v2, N) hI
    · refine zg_st (pc' := 7) (L' := [some (.inr 0), some (.inl x1), some (.inl v2)]) (S' := []) (M' := N) rfl rfl rfl rfl ?_
      refine zg_iload_n (x := x1) dX5_clean_7 rfl ?_
      refine zg_iconst (v := (-1)) dX5_clean_8 rfl ?_
      refine zg_icmpz (tgt := 45) dX5_clean_9 rfl rfl (fun c9 => ?_) (fun c9 => ?_)
      · refine zg_st (pc' := 45) (L' := [some (.inr 0), some (.inl x1), some (.inl v2)]) (S' := []) (M' := N) rfl rfl rfl rfl ?_
        refine zg_drop (L' := [some (.inr 0), some (.inl x1), some (.inl v2)]) ⟨rfl, rfl, rfl, trivial⟩ ?_
        exact hx (v2, N) hI
      · refine zg_st (pc' := 12) (L' := [some (.inr 0), some (.inl x1), some (.inl v2)]) (S' := []) (M' := N) rfl rfl rfl rfl ?_
        refine zg_aload_n (x := 0) dX5_clean_12 rfl ?_
        refine zg_getf (v := .inr 10) dX5_clean_13 zf_X5_42 rfl rfl rfl ?_
        refine zg_iconst (v := 2) dX5_clean_16 rfl ?_
        refine zg_iload_n (x := x1) dX5_clean_17 rfl ?_
        refine zg_bipush (v := 40) dX5_clean_18 rfl ?_
        refine zg_idiv dX5_clean_20 (by decide) ?_
        refine zg_imul dX5_clean_21 ?_
        refine zg_iload_n (x := v2) dX5_clean_22 rfl ?_
        refine zg_iadd dX5_clean_23 ?_
        refine zg_zald dX5_clean_24 rfl (z_g1 ⟨hx1, hI, z_lt2 c4⟩ c9) ?_
        refine zg_ifz (tgt := 39) dX5_clean_25 rfl rfl (fun c25 => ?_) (fun c25 => ?_)
        · refine zg_st (pc' := 39) (L' := [some (.inr 0), some (.inl x1), some (.inl v2)]) (S' := []) (M' := N) rfl rfl rfl rfl ?_
          refine zg_iinc (v := (v2 + 1)) dX5_clean_39 rfl (by decide) rfl ?_
          refine zg_st (pc' := 42) (L' := [some (.inr 0), some (.inl x1), some (.inl (v2 + 1))]) (S' := []) (M' := N) rfl rfl rfl rfl ?_
          refine zg_goto (tgt := 2) dX5_clean_42 rfl ?_
          refine zg_st (pc' := 2) (L' := [some (.inr 0), some (.inl x1), some (.inl (v2 + 1))]) (S' := []) (M' := N) rfl rfl rfl rfl ?_
          refine zg_drop (L' := [some (.inr 0), some (.inl x1), some (.inl (v2 + 1))]) ⟨rfl, rfl, rfl, trivial⟩ ?_
          exact ih (v2 + 1) N (z_ge0 c4 hI) (z_up c4 hm)
        · refine zg_st (pc' := 28) (L' := [some (.inr 0), some (.inl x1), some (.inl v2)]) (S' := []) (M' := N) rfl rfl rfl rfl ?_
          refine zg_aload_n (x := 0) dX5_clean_28 rfl ?_
          refine zg_getf (v := .inr 9) dX5_clean_29 zf_X5_39 rfl rfl rfl ?_
          refine zg_iconst (v := 2) dX5_clean_32 rfl ?_
          refine zg_iload_n (x := x1) dX5_clean_33 rfl ?_
          refine zg_imul dX5_clean_34 ?_
          refine zg_iload_n (x := v2) dX5_clean_35 rfl ?_
          refine zg_iadd dX5_clean_36 ?_
          refine zg_iconst (v := 0) dX5_clean_37 rfl ?_
          refine zg_zast (v := 0) dX5_clean_38 rfl (z_g2 ⟨hx1, hI, z_lt2 c4⟩ c9) rfl ?_
          refine zg_iinc (v := (v2 + 1)) dX5_clean_39 rfl (by decide) rfl ?_
          refine zg_st (pc' := 42) (L' := [some (.inr 0), some (.inl x1), some (.inl (v2 + 1))]) (S' := []) (M' := (mup N 9 ((2 * x1) + v2).toNatClampNeg 0)) rfl rfl rfl rfl ?_
          refine zg_goto (tgt := 2) dX5_clean_42 rfl ?_
          refine zg_st (pc' := 2) (L' := [some (.inr 0), some (.inl x1), some (.inl (v2 + 1))]) (S' := []) (M' := (mup N 9 ((2 * x1) + v2).toNatClampNeg 0)) rfl rfl rfl rfl ?_
          refine zg_drop (L' := [some (.inr 0), some (.inl x1), some (.inl (v2 + 1))]) ⟨rfl, rfl, rfl, trivial⟩ ?_
          exact ih (v2 + 1) (mup N 9 ((2 * x1) + v2).toNatClampNeg 0) (z_ge0 c4 hI) (z_up c4 hm)
def f_X5_clean (p1 : Int32) (M : Mem) : Mem :=
  zlet (l_X5_clean_2 p1 3 0 M) (fun s1 =>
  s1.2)
set_option maxRecDepth 100000 in
set_option maxHeartbeats 4000000 in
theorem k_X5_clean (q : ZQ) (p1 : Int32) (M : Mem) (hp : -1 ≤ p1.toInt ∧ p1.toInt < 120) : Zc (zgM q) mX5_clean 0 0 [.inr 0, .inl p1] M (wV (f_X5_clean p1 M)) := by
  refine Zc.of (by decide) zi_X5_clean.1 (Nat.le_of_ble_eq_true rfl) rfl ?_
  show Zg _ _ _ _ _ _ (zlet (f_X5_clean p1 M) wV) _ _ _ _
  unfold f_X5_clean
  refine zg_iconst (v := 0) dX5_clean_0 rfl ?_
  refine zg_istore_n dX5_clean_1 (by decide) ?_
  refine zg_st (pc' := 2) (L' := [some (.inr 0), some (.inl p1), some (.inl 0)]) (S' := []) (M' := M) rfl rfl rfl rfl ?_
  refine zg_asc ?_
  refine zg_drop (L' := [some (.inr 0), some (.inl p1), some (.inl 0)]) ⟨rfl, rfl, rfl, trivial⟩ ?_
  refine kl_X5_clean_2 q p1  hp (fun s1 hI_s1 => ?_) 3 0 M (by decide) (by decide)
  try dsimp only [Sum.elim_inr]
  refine zg_st (pc' := 45) (L' := [some (.inr 0), some (.inl p1), some (.inl s1.1)]) (S' := []) (M' := s1.2) rfl rfl rfl rfl ?_
  exact zg_vret dX5_clean_45 rfl ⟨by decide, by decide⟩ rfl
theorem dX5_nodeSum_0 : decode cX5_nodeSum 0 = .ok (.iconst 1, 1) := by decide +kernel
theorem dX5_nodeSum_1 : decode cX5_nodeSum 1 = .ok (.istore_n 3, 1) := by decide +kernel
theorem dX5_nodeSum_2 : decode cX5_nodeSum 2 = .ok (.iload_n 1, 1) := by decide +kernel
theorem dX5_nodeSum_3 : decode cX5_nodeSum 3 = .ok (.istore 4, 2) := by decide +kernel
theorem dX5_nodeSum_5 : decode cX5_nodeSum 5 = .ok (.iload 4, 2) := by decide +kernel
theorem dX5_nodeSum_7 : decode cX5_nodeSum 7 = .ok (.iload_n 1, 1) := by decide +kernel
theorem dX5_nodeSum_8 : decode cX5_nodeSum 8 = .ok (.iload_n 2, 1) := by decide +kernel
theorem dX5_nodeSum_9 : decode cX5_nodeSum 9 = .ok (.iadd, 1) := by decide +kernel
theorem dX5_nodeSum_10 : decode cX5_nodeSum 10 = .ok (.if_icmp .ge 34, 3) := by decide +kernel
theorem dX5_nodeSum_13 : decode cX5_nodeSum 13 = .ok (.iload_n 3, 1) := by decide +kernel
theorem dX5_nodeSum_14 : decode cX5_nodeSum 14 = .ok (.sipush 131, 3) := by decide +kernel
theorem dX5_nodeSum_17 : decode cX5_nodeSum 17 = .ok (.imul, 1) := by decide +kernel
theorem dX5_nodeSum_18 : decode cX5_nodeSum 18 = .ok (.aload_n 0, 1) := by decide +kernel
theorem dX5_nodeSum_19 : decode cX5_nodeSum 19 = .ok (.getfield 32, 3) := by decide +kernel
theorem dX5_nodeSum_22 : decode cX5_nodeSum 22 = .ok (.iload 4, 2) := by decide +kernel
theorem dX5_nodeSum_24 : decode cX5_nodeSum 24 = .ok (.iaload, 1) := by decide +kernel
theorem dX5_nodeSum_25 : decode cX5_nodeSum 25 = .ok (.iadd, 1) := by decide +kernel
theorem dX5_nodeSum_26 : decode cX5_nodeSum 26 = .ok (.aload_n 0, 1) := by decide +kernel
theorem dX5_nodeSum_27 : decode cX5_nodeSum 27 = .ok (.getfield 29, 3) := by decide +kernel
theorem dX5_nodeSum_30 : decode cX5_nodeSum 30 = .ok (.iload 4, 2) := by decide +kernel
theorem dX5_nodeSum_32 : decode cX5_nodeSum 32 = .ok (.iaload, 1) := by decide +kernel
theorem dX5_nodeSum_33 : decode cX5_nodeSum 33 = .ok (.iadd, 1) := by decide +kernel
theorem dX5_nodeSum_34 : decode cX5_nodeSum 34 = .ok (.ldc 128, 2) := by decide +kernel
theorem dX5_nodeSum_36 : decode cX5_nodeSum 36 = .ok (.irem, 1) := by decide +kernel
theorem dX5_nodeSum_37 : decode cX5_nodeSum 37 = .ok (.istore_n 3, 1) := by decide +kernel
theorem dX5_nodeSum_38 : decode cX5_nodeSum 38 = .ok (.iinc 4 1, 3) := by decide +kernel
theorem dX5_nodeSum_41 : decode cX5_nodeSum 41 = .ok (.goto (-36), 3) := by decide +kernel
theorem dX5_nodeSum_44 : decode cX5_nodeSum 44 = .ok (.iload_n 3, 1) := by decide +kernel
theorem dX5_nodeSum_45 : decode cX5_nodeSum 45 = .ok (.ireturn, 1) := by decide +kernel
def b_X5_nodeSum_5 (x1 : Int32) (x2 : Int32) (M : Mem) (rec : Int32 → Int32 → Int32 × Int32) (v3 : Int32) (v4 : Int32) : Int32 × Int32 :=
  if (x1 + x2) ≤ v4 then (v3, v4)
  else rec ((((v3 * 131) + (M 7 v4.toNatClampNeg)) + (M 6 v4.toNatClampNeg)) - (((v3 * 131) + (M 7 v4.toNatClampNeg)) + (M 6 v4.toNatClampNeg)) / 65521 * 65521) (v4 + 1)
def l_X5_nodeSum_5 (x1 : Int32) (x2 : Int32) (M : Mem) : Nat → Int32 → Int32 → Int32 × Int32
  | 0, v3, v4 => (v3, v4)
  | n + 1, v3, v4 => b_X5_nodeSum_5 x1 x2 M (l_X5_nodeSum_5 x1 x2 M n) v3 v4
set_option maxRecDepth 100000 in
set_option maxHeartbeats 4000000 in
theorem kl_X5_nodeSum_5 (q : ZQ) (x1 : Int32) (x2 : Int32) (M : Mem) (hx : 0 ≤ x1.toInt ∧ 0 ≤ x2.toInt ∧ x1.toInt + x2.toInt ≤ 53) {K : Int32 × Int32 → ZR} (hx : ∀ e : Int32 × Int32, (0 : Int) ≤ e.2.toInt → Zg (zgM q) mX5_nodeSum 0 0 0 0 (K e) 44 [some (.inr 0), some (.inl x1), some (.inl x2), some (.inl e.1), some (.inl e.2)] [] M) :
    ∀ (n : Nat) (v3 : Int32) (v4 : Int32), (0 : Int) ≤ v4.toInt → (((x1 + x2) : Int32).toInt - (v4 : Int32).toInt).toNat < n → Zg (zgM q) mX5_nodeSum 0 0 0 0 (zlet (l_X5_nodeSum_5 x1 x2 M n v3 v4) K) 5 [some (.inr 0), some (.inl x1), some (.inl x2), some (.inl v3), some (.inl v4)] [] M := by
  intro n
  induction n with
  | zero => intro v3 v4 hI hm; exact absurd hm (Nat.not_lt_zero _)
  | succ n ih =>
    intro v3 v4 hI hm
    show Zg _ _ _ _ _ _ (zlet (b_X5_nodeSum_5 x1 x2 M (l_X5_nodeSum_5 x1 x2 M n) v3 v4) K) _ _ _ _
    unfold b_X5_nodeSum_5
    refine zg_iload (x := v4) dX5_nodeSum_5 rfl ?_
    refine zg_iload_n (x := x1) dX5_nodeSum_7 rfl ?_
    refine zg_iload_n (x := x2) dX5_nodeSum_8 rfl ?_
    refine zg_iadd dX5_nodeSum_9 ?_
    refine zg_icmpz (tgt := 44) dX5_nodeSum_10 rfl rfl (fun c10 => ?_) (fun c10 => ?_)
    · refine zg_st (pc' := 44) (L' := [some (.inr 0), some (.inl x1), some (.inl x2), some (.inl v3), some (.inl v4)]) (S' := []) (M' := M) rfl rfl rfl rfl ?_
      refine zg_drop (L' := [some (.inr 0), some (.inl x1), some (.inl x2), some (.inl v3), some (.inl v4)]) ⟨rfl, rfl, rfl, rfl, rfl, trivial⟩ ?_
      exact hx (v3, v4) hI
    · refine zg_st (pc' := 13) (L' := [some (.inr 0), some (.inl x1), some (.inl x2), some (.inl v3), some (.inl v4)]) (S' := []) (M' := M) rfl rfl rfl rfl ?_
      refine zg_iload_n (x := v3) dX5_nodeSum_13 rfl ?_
      refine zg_sipush (v := 131) dX5_nodeSum_14 rfl ?_
      refine zg_imul dX5_nodeSum_17 ?_
      refine zg_aload_n (x := 0) dX5_nodeSum_18 rfl ?_
      refine zg_getf (v := .inr 7) dX5_nodeSum_19 zf_X5_32 rfl rfl rfl ?_
      refine zg_iload (x := v4) dX5_nodeSum_22 rfl ?_
      refine zg_iald dX5_nodeSum_24 rfl (z_ns c10 hx hI) ?_
      refine zg_iadd dX5_nodeSum_25 ?_
      refine zg_aload_n (x := 0) dX5_nodeSum_26 rfl ?_
      refine zg_getf (v := .inr 6) dX5_nodeSum_27 zf_X5_29 rfl rfl rfl ?_
      refine zg_iload (x := v4) dX5_nodeSum_30 rfl ?_
      refine zg_iald dX5_nodeSum_32 rfl (z_ns c10 hx hI) ?_
      refine zg_iadd dX5_nodeSum_33 ?_
      refine zg_ldc (v := 65521) dX5_nodeSum_34 (zm4 146 (by decide +kernel) rfl) ?_
      refine zg_irem dX5_nodeSum_36 (by decide) ?_
      refine zg_istore_n dX5_nodeSum_37 (by decide) ?_
      refine zg_st (pc' := 38) (L' := [some (.inr 0), some (.inl x1), some (.inl x2), some (.inl ((((v3 * 131) + (M 7 v4.toNatClampNeg)) + (M 6 v4.toNatClampNeg)) - (((v3 * 131) + (M 7 v4.toNatClampNeg)) + (M 6 v4.toNatClampNeg)) / 65521 * 65521)), some (.inl v4)]) (S' := []) (M' := M) rfl rfl rfl rfl ?_
      refine zg_iinc (v := (v4 + 1)) dX5_nodeSum_38 rfl (by decide) rfl ?_
      refine zg_st (pc' := 41) (L' := [some (.inr 0), some (.inl x1), some (.inl x2), some (.inl ((((v3 * 131) + (M 7 v4.toNatClampNeg)) + (M 6 v4.toNatClampNeg)) - (((v3 * 131) + (M 7 v4.toNatClampNeg)) + (M 6 v4.toNatClampNeg)) / 65521 * 65521)), some (.inl (v4 + 1))]) (S' := []) (M' := M) rfl rfl rfl rfl ?_
      refine zg_goto (tgt := 5) dX5_nodeSum_41 rfl ?_
      refine zg_st (pc' := 5) (L' := [some (.inr 0), some (.inl x1), some (.inl x2), some (.inl ((((v3 * 131) + (M 7 v4.toNatClampNeg)) + (M 6 v4.toNatClampNeg)) - (((v3 * 131) + (M 7 v4.toNatClampNeg)) + (M 6 v4.toNatClampNeg)) / 65521 * 65521)), some (.inl (v4 + 1))]) (S' := []) (M' := M) rfl rfl rfl rfl ?_
      refine zg_drop (L' := [some (.inr 0), some (.inl x1), some (.inl x2), some (.inl ((((v3 * 131) + (M 7 v4.toNatClampNeg)) + (M 6 v4.toNatClampNeg)) - (((v3 * 131) + (M 7 v4.toNatClampNeg)) + (M 6 v4.toNatClampNeg)) / 65521 * 65521)), some (.inl (v4 + 1))]) ⟨rfl, rfl, rfl, rfl, rfl, trivial⟩ ?_
      exact ih ((((v3 * 131) + (M 7 v4.toNatClampNeg)) + (M 6 v4.toNatClampNeg)) - (((v3 * 131) + (M 7 v4.toNatClampNeg)) + (M 6 v4.toNatClampNeg)) / 65521 * 65521) (v4 + 1) (z_ge0 c10 hI) (z_up c10 hm)
def f_X5_nodeSum (p1 : Int32) (p2 : Int32) (M : Mem) : Int32 :=
  zlet (l_X5_nodeSum_5 p1 p2 M ((((p1 + p2) : Int32).toInt - (p1 : Int32).toInt).toNat + 1) 1 p1) (fun s1 =>
  s1.1)
set_option maxRecDepth 100000 in
set_option maxHeartbeats 4000000 in
theorem k_X5_nodeSum (q : ZQ) (p1 : Int32) (p2 : Int32) (M : Mem) (hp : 0 ≤ p1.toInt ∧ 0 ≤ p2.toInt ∧ p1.toInt + p2.toInt ≤ 53) : Zc (zgM q) mX5_nodeSum 0 0 [.inr 0, .inl p1, .inl p2] M (wI M (f_X5_nodeSum p1 p2 M)) := by
  refine Zc.of (by decide) zi_X5_nodeSum.1 (Nat.le_of_ble_eq_true rfl) rfl ?_
  show Zg _ _ _ _ _ _ (zlet (f_X5_nodeSum p1 p2 M) (wI M)) _ _ _ _
  unfold f_X5_nodeSum
  refine zg_iconst (v := 1) dX5_nodeSum_0 rfl ?_
  refine zg_istore_n dX5_nodeSum_1 (by decide) ?_
  refine zg_st (pc' := 2) (L' := [some (.inr 0), some (.inl p1), some (.inl p2), some (.inl 1), none]) (S' := []) (M' := M) rfl rfl rfl rfl ?_
  refine zg_iload_n (x := p1) dX5_nodeSum_2 rfl ?_
  refine zg_istore dX5_nodeSum_3 (by decide) ?_
  refine zg_st (pc' := 5) (L' := [some (.inr 0), some (.inl p1), some (.inl p2), some (.inl 1), some (.inl p1)]) (S' := []) (M' := M) rfl rfl rfl rfl ?_
  refine zg_asc ?_
  refine zg_drop (L' := [some (.inr 0), some (.inl p1), some (.inl p2), some (.inl 1), some (.inl p1)]) ⟨rfl, rfl, rfl, rfl, rfl, trivial⟩ ?_
  refine kl_X5_nodeSum_5 q p1 p2 M hp (fun s1 hI_s1 => ?_) ((((p1 + p2) : Int32).toInt - (p1 : Int32).toInt).toNat + 1) 1 p1 hp.1 (Nat.lt_succ_self _)
  try dsimp only [Sum.elim_inr]
  refine zg_st (pc' := 44) (L' := [some (.inr 0), some (.inl p1), some (.inl p2), some (.inl s1.1), some (.inl s1.2)]) (S' := []) (M' := M) rfl rfl rfl rfl ?_
  refine zg_iload_n (x := s1.1) dX5_nodeSum_44 rfl ?_
  exact zg_iret dX5_nodeSum_45 rfl rfl ⟨by decide, by decide⟩ rfl
theorem dX5_sumOf_0 : decode cX5_sumOf 0 = .ok (.iload_n 1, 1) := by decide +kernel
theorem dX5_sumOf_1 : decode cX5_sumOf 1 = .ok (.bipush 48, 2) := by decide +kernel
theorem dX5_sumOf_3 : decode cX5_sumOf 3 = .ok (.if_icmp .ge 21, 3) := by decide +kernel
theorem dX5_sumOf_6 : decode cX5_sumOf 6 = .ok (.bipush 31, 2) := by decide +kernel
theorem dX5_sumOf_8 : decode cX5_sumOf 8 = .ok (.aload_n 0, 1) := by decide +kernel
theorem dX5_sumOf_9 : decode cX5_sumOf 9 = .ok (.getfield 17, 3) := by decide +kernel
theorem dX5_sumOf_12 : decode cX5_sumOf 12 = .ok (.iload_n 1, 1) := by decide +kernel
theorem dX5_sumOf_13 : decode cX5_sumOf 13 = .ok (.iaload, 1) := by decide +kernel
theorem dX5_sumOf_14 : decode cX5_sumOf 14 = .ok (.imul, 1) := by decide +kernel
theorem dX5_sumOf_15 : decode cX5_sumOf 15 = .ok (.bipush 17, 2) := by decide +kernel
theorem dX5_sumOf_17 : decode cX5_sumOf 17 = .ok (.iadd, 1) := by decide +kernel
theorem dX5_sumOf_18 : decode cX5_sumOf 18 = .ok (.ldc 128, 2) := by decide +kernel
theorem dX5_sumOf_20 : decode cX5_sumOf 20 = .ok (.irem, 1) := by decide +kernel
theorem dX5_sumOf_21 : decode cX5_sumOf 21 = .ok (.goto 32, 3) := by decide +kernel
theorem dX5_sumOf_24 : decode cX5_sumOf 24 = .ok (.iload_n 1, 1) := by decide +kernel
theorem dX5_sumOf_25 : decode cX5_sumOf 25 = .ok (.bipush 52, 2) := by decide +kernel
theorem dX5_sumOf_27 : decode cX5_sumOf 27 = .ok (.if_icmp .ne 13, 3) := by decide +kernel
theorem dX5_sumOf_30 : decode cX5_sumOf 30 = .ok (.aload_n 0, 1) := by decide +kernel
theorem dX5_sumOf_31 : decode cX5_sumOf 31 = .ok (.bipush 48, 2) := by decide +kernel
theorem dX5_sumOf_33 : decode cX5_sumOf 33 = .ok (.iconst 4, 1) := by decide +kernel
theorem dX5_sumOf_34 : decode cX5_sumOf 34 = .ok (.invokevirtual 129, 3) := by decide +kernel
theorem dX5_sumOf_37 : decode cX5_sumOf 37 = .ok (.goto 16, 3) := by decide +kernel
theorem dX5_sumOf_40 : decode cX5_sumOf 40 = .ok (.aload_n 0, 1) := by decide +kernel
theorem dX5_sumOf_41 : decode cX5_sumOf 41 = .ok (.bipush 12, 2) := by decide +kernel
theorem dX5_sumOf_43 : decode cX5_sumOf 43 = .ok (.iload_n 1, 1) := by decide +kernel
theorem dX5_sumOf_44 : decode cX5_sumOf 44 = .ok (.bipush 48, 2) := by decide +kernel
theorem dX5_sumOf_46 : decode cX5_sumOf 46 = .ok (.isub, 1) := by decide +kernel
theorem dX5_sumOf_47 : decode cX5_sumOf 47 = .ok (.imul, 1) := by decide +kernel
theorem dX5_sumOf_48 : decode cX5_sumOf 48 = .ok (.bipush 12, 2) := by decide +kernel
theorem dX5_sumOf_50 : decode cX5_sumOf 50 = .ok (.invokevirtual 129, 3) := by decide +kernel
theorem dX5_sumOf_53 : decode cX5_sumOf 53 = .ok (.ireturn, 1) := by decide +kernel
def f_X5_sumOf (p1 : Int32) (M : Mem) : Int32 :=
  if 48 ≤ p1 then if ¬ p1 = 52 then (f_X5_nodeSum (12 * (p1 - 48)) 12 M)
    else (f_X5_nodeSum 48 4 M)
  else (((31 * (M 2 p1.toNatClampNeg)) + 17) - ((31 * (M 2 p1.toNatClampNeg)) + 17) / 65521 * 65521)
set_option maxRecDepth 100000 in
set_option maxHeartbeats 4000000 in
theorem k_X5_sumOf (q : ZQ) (p1 : Int32) (M : Mem) (hp : vp_in p1 53) : Zc (zgM q) mX5_sumOf 0 0 [.inr 0, .inl p1] M (wI M (f_X5_sumOf p1 M)) := by
  refine Zc.of (by decide) zi_X5_sumOf.1 (Nat.le_of_ble_eq_true rfl) rfl ?_
  show Zg _ _ _ _ _ _ (zlet (f_X5_sumOf p1 M) (wI M)) _ _ _ _
  unfold f_X5_sumOf
  refine zg_iload_n (x := p1) dX5_sumOf_0 rfl ?_
  refine zg_bipush (v := 48) dX5_sumOf_1 rfl ?_
  refine zg_icmpz (tgt := 24) dX5_sumOf_3 rfl rfl (fun c3 => ?_) (fun c3 => ?_)
  · refine zg_st (pc' := 24) (L' := [some (.inr 0), some (.inl p1)]) (S' := []) (M' := M) rfl rfl rfl rfl ?_
    refine zg_iload_n (x := p1) dX5_sumOf_24 rfl ?_
    refine zg_bipush (v := 52) dX5_sumOf_25 rfl ?_
    refine zg_icmpz (tgt := 40) dX5_sumOf_27 rfl rfl (fun c27 => ?_) (fun c27 => ?_)
    · refine zg_st (pc' := 40) (L' := [some (.inr 0), some (.inl p1)]) (S' := []) (M' := M) rfl rfl rfl rfl ?_
      refine zg_aload_n (x := 0) dX5_sumOf_40 rfl ?_
      refine zg_bipush (v := 12) dX5_sumOf_41 rfl ?_
      refine zg_iload_n (x := p1) dX5_sumOf_43 rfl ?_
      refine zg_bipush (v := 48) dX5_sumOf_44 rfl ?_
      refine zg_isub dX5_sumOf_46 ?_
      refine zg_imul dX5_sumOf_47 ?_
      refine zg_bipush (v := 12) dX5_sumOf_48 rfl ?_
      refine zg_cV1 (As := [.inl (12 * (p1 - 48)), .inl 12]) (S := []) (v := (f_X5_nodeSum (12 * (p1 - 48)) 12 M)) dX5_sumOf_50 zk_X5_129 (k_X5_nodeSum q (12 * (p1 - 48)) 12 M (by first | exact z_so hp c3 c30 | decide)) rfl rfl ⟨by decide, by decide⟩ ⟨by decide, by decide⟩ rfl (Nat.le_of_ble_eq_true rfl) ?_
      refine zg_st (pc' := 53) (L' := [some (.inr 0), some (.inl p1)]) (S' := [.inl (f_X5_nodeSum (12 * (p1 - 48)) 12 M)]) (M' := M) rfl rfl rfl rfl ?_
      exact zg_iret dX5_sumOf_53 rfl rfl ⟨by decide, by decide⟩ rfl
    · refine zg_st (pc' := 30) (L' := [some (.inr 0), some (.inl p1)]) (S' := []) (M' := M) rfl rfl rfl rfl ?_
      refine zg_aload_n (x := 0) dX5_sumOf_30 rfl ?_
      refine zg_bipush (v := 48) dX5_sumOf_31 rfl ?_
      refine zg_iconst (v := 4) dX5_sumOf_33 rfl ?_
      refine zg_cV1 (As := [.inl 48, .inl 4]) (S := []) (v := (f_X5_nodeSum 48 4 M)) dX5_sumOf_34 zk_X5_129 (k_X5_nodeSum q 48 4 M (by first | exact z_so hp c3 c30 | decide)) rfl rfl ⟨by decide, by decide⟩ ⟨by decide, by decide⟩ rfl (Nat.le_of_ble_eq_true rfl) ?_
      refine zg_st (pc' := 37) (L' := [some (.inr 0), some (.inl p1)]) (S' := [.inl (f_X5_nodeSum 48 4 M)]) (M' := M) rfl rfl rfl rfl ?_
      refine zg_goto (tgt := 53) dX5_sumOf_37 rfl ?_
      refine zg_st (pc' := 53) (L' := [some (.inr 0), some (.inl p1)]) (S' := [.inl (f_X5_nodeSum 48 4 M)]) (M' := M) rfl rfl rfl rfl ?_
      exact zg_iret dX5_sumOf_53 rfl rfl ⟨by decide, by decide⟩ rfl
  · refine zg_st (pc' := 6) (L' := [some (.inr 0), some (.inl p1)]) (S' := []) (M' := M) rfl rfl rfl rfl ?_
    refine zg_bipush (v := 31) dX5_sumOf_6 rfl ?_
    refine zg_aload_n (x := 0) dX5_sumOf_8 rfl ?_
    refine zg_getf (v := .inr 2) dX5_sumOf_9 zf_X5_17 rfl rfl rfl ?_
    refine zg_iload_n (x := p1) dX5_sumOf_12 rfl ?_
    refine zg_iald dX5_sumOf_13 rfl (z_lt48 hp c3) ?_
    refine zg_imul dX5_sumOf_14 ?_
    refine zg_bipush (v := 17) dX5_sumOf_15 rfl ?_
    refine zg_iadd dX5_sumOf_17 ?_
    refine zg_ldc (v := 65521) dX5_sumOf_18 (zm4 146 (by decide +kernel) rfl) ?_
    refine zg_irem dX5_sumOf_20 (by decide) ?_
    refine zg_goto (tgt := 53) dX5_sumOf_21 rfl ?_
    refine zg_st (pc' := 53) (L' := [some (.inr 0), some (.inl p1)]) (S' := [.inl (((31 * (M 2 p1.toNatClampNeg)) + 17) - ((31 * (M 2 p1.toNatClampNeg)) + 17) / 65521 * 65521)]) (M' := M) rfl rfl rfl rfl ?_
    exact zg_iret dX5_sumOf_53 rfl rfl ⟨by decide, by decide⟩ rfl
theorem dX5_countBuffered_0 : decode cX5_countBuffered 0 = .ok (.iconst 0, 1) := by decide +kernel
theorem dX5_countBuffered_1 : decode cX5_countBuffered 1 = .ok (.istore_n 1, 1) := by decide +kernel
theorem dX5_countBuffered_2 : decode cX5_countBuffered 2 = .ok (.iconst 0, 1) := by decide +kernel
theorem dX5_countBuffered_3 : decode cX5_countBuffered 3 = .ok (.istore_n 2, 1) := by decide +kernel
theorem dX5_countBuffered_4 : decode cX5_countBuffered 4 = .ok (.iload_n 2, 1) := by decide +kernel
theorem dX5_countBuffered_5 : decode cX5_countBuffered 5 = .ok (.bipush 48, 2) := by decide +kernel
theorem dX5_countBuffered_7 : decode cX5_countBuffered 7 = .ok (.if_icmp .ge 27, 3) := by decide +kernel
theorem dX5_countBuffered_10 : decode cX5_countBuffered 10 = .ok (.iload_n 1, 1) := by decide +kernel
theorem dX5_countBuffered_11 : decode cX5_countBuffered 11 = .ok (.aload_n 0, 1) := by decide +kernel
theorem dX5_countBuffered_12 : decode cX5_countBuffered 12 = .ok (.getfield 20, 3) := by decide +kernel
theorem dX5_countBuffered_15 : decode cX5_countBuffered 15 = .ok (.iload_n 2, 1) := by decide +kernel
theorem dX5_countBuffered_16 : decode cX5_countBuffered 16 = .ok (.iaload, 1) := by decide +kernel
theorem dX5_countBuffered_17 : decode cX5_countBuffered 17 = .ok (.iconst (-1), 1) := by decide +kernel
theorem dX5_countBuffered_18 : decode cX5_countBuffered 18 = .ok (.if_icmp .ne 7, 3) := by decide +kernel
theorem dX5_countBuffered_21 : decode cX5_countBuffered 21 = .ok (.iconst 0, 1) := by decide +kernel
theorem dX5_countBuffered_22 : decode cX5_countBuffered 22 = .ok (.goto 4, 3) := by decide +kernel
theorem dX5_countBuffered_25 : decode cX5_countBuffered 25 = .ok (.iconst 1, 1) := by decide +kernel
theorem dX5_countBuffered_26 : decode cX5_countBuffered 26 = .ok (.iadd, 1) := by decide +kernel
theorem dX5_countBuffered_27 : decode cX5_countBuffered 27 = .ok (.istore_n 1, 1) := by decide +kernel
theorem dX5_countBuffered_28 : decode cX5_countBuffered 28 = .ok (.iinc 2 1, 3) := by decide +kernel
theorem dX5_countBuffered_31 : decode cX5_countBuffered 31 = .ok (.goto (-27), 3) := by decide +kernel
theorem dX5_countBuffered_34 : decode cX5_countBuffered 34 = .ok (.iload_n 1, 1) := by decide +kernel
theorem dX5_countBuffered_35 : decode cX5_countBuffered 35 = .ok (.ireturn, 1) := by decide +kernel
def b_X5_countBuffered_4 (M : Mem) (rec : Int32 → Int32 → Int32 × Int32) (v1 : Int32) (v2 : Int32) : Int32 × Int32 :=
  if 48 ≤ v2 then (v1, v2)
  else if ¬ (M 3 v2.toNatClampNeg) = (-1) then rec (v1 + 1) (v2 + 1)
  else rec (v1 + 0) (v2 + 1)
def l_X5_countBuffered_4 (M : Mem) : Nat → Int32 → Int32 → Int32 × Int32
  | 0, v1, v2 => (v1, v2)
  | n + 1, v1, v2 => b_X5_countBuffered_4 M (l_X5_countBuffered_4 M n) v1 v2
set_option maxRecDepth 100000 in
set_option maxHeartbeats 4000000 in
theorem kl_X5_countBuffered_4 (q : ZQ) (M : Mem) {K : Int32 × Int32 → ZR} (hx : ∀ e : Int32 × Int32, (0 : Int) ≤ e.2.toInt → Zg (zgM q) mX5_countBuffered 0 0 0 0 (K e) 34 [some (.inr 0), some (.inl e.1), some (.inl e.2)] [] M) :
    ∀ (n : Nat) (v1 : Int32) (v2 : Int32), (0 : Int) ≤ v2.toInt → ((48 : Int32).toInt - (v2 : Int32).toInt).toNat < n → Zg (zgM q) mX5_countBuffered 0 0 0 0 (zlet (l_X5_countBuffered_4 M n v1 v2) K) 4 [some (.inr 0), some (.inl v1), some (.inl v2)] [] M := by
  intro n
  induction n with
  | zero => intro v1 v2 hI hm; exact absurd hm (Nat.not_lt_zero _)
  | succ n ih =>
    intro v1 v2 hI hm
    show Zg _ _ _ _ _ _ (zlet (b_X5_countBuffered_4 M (l_X5_countBuffered_4 M n) v1 v2) K) _ _ _ _
    unfold b_X5_countBuffered_4
    refine zg_iload_n (x := v2) dX5_countBuffered_4 rfl ?_
    refine zg_bipush (v := 48) dX5_countBuffered_5 rfl ?_
    refine zg_icmpz (tgt := 34) dX5_countBuffered_7 rfl rfl (fun c7 => ?_) (fun c7 => ?_)
    · refine zg_st (pc' := 34) (L' := [some (.inr 0), some (.inl v1), some (.inl v2)]) (S' := []) (M' := M) rfl rfl rfl rfl ?_
      refine zg_drop (L' := [some (.inr 0), some (.inl v1), some (.inl v2)]) ⟨rfl, rfl, rfl, trivial⟩ ?_
      exact hx (v1, v2) hI
    · refine zg_st (pc' := 10) (L' := [some (.inr 0), some (.inl v1), some (.inl v2)]) (S' := []) (M' := M) rfl rfl rfl rfl ?_
      refine zg_iload_n (x := v1) dX5_countBuffered_10 rfl ?_
      refine zg_aload_n (x := 0) dX5_countBuffered_11 rfl ?_
      refine zg_getf (v := .inr 3) dX5_countBuffered_12 zf_X5_20 rfl rfl rfl ?_
      refine zg_iload_n (x := v2) dX5_countBuffered_15 rfl ?_
      refine zg_iald dX5_countBuffered_16 rfl (z_lt c7 rfl hI) ?_
      refine zg_iconst (v := (-1)) dX5_countBuffered_17 rfl ?_
      refine zg_icmpz (tgt := 25) dX5_countBuffered_18 rfl rfl (fun c18 => ?_) (fun c18 => ?_)
      · refine zg_st (pc' := 25) (L' := [some (.inr 0), some (.inl v1), some (.inl v2)]) (S' := [.inl v1]) (M' := M) rfl rfl rfl rfl ?_
        refine zg_iconst (v := 1) dX5_countBuffered_25 rfl ?_
        refine zg_iadd dX5_countBuffered_26 ?_
        refine zg_istore_n dX5_countBuffered_27 (by decide) ?_
        refine zg_st (pc' := 28) (L' := [some (.inr 0), some (.inl (v1 + 1)), some (.inl v2)]) (S' := []) (M' := M) rfl rfl rfl rfl ?_
        refine zg_iinc (v := (v2 + 1)) dX5_countBuffered_28 rfl (by decide) rfl ?_
        refine zg_st (pc' := 31) (L' := [some (.inr 0), some (.inl (v1 + 1)), some (.inl (v2 + 1))]) (S' := []) (M' := M) rfl rfl rfl rfl ?_
        refine zg_goto (tgt := 4) dX5_countBuffered_31 rfl ?_
        refine zg_st (pc' := 4) (L' := [some (.inr 0), some (.inl (v1 + 1)), some (.inl (v2 + 1))]) (S' := []) (M' := M) rfl rfl rfl rfl ?_
        refine zg_drop (L' := [some (.inr 0), some (.inl (v1 + 1)), some (.inl (v2 + 1))]) ⟨rfl, rfl, rfl, trivial⟩ ?_
        exact ih (v1 + 1) (v2 + 1) (z_ge0 c7 hI) (z_up c7 hm)
      · refine zg_st (pc' := 21) (L' := [some (.inr 0), some (.inl v1), some (.inl v2)]) (S' := [.inl v1]) (M' := M) rfl rfl rfl rfl ?_
        refine zg_iconst (v := 0) dX5_countBuffered_21 rfl ?_
        refine zg_goto (tgt := 26) dX5_countBuffered_22 rfl ?_
        refine zg_st (pc' := 26) (L' := [some (.inr 0), some (.inl v1), some (.inl v2)]) (S' := [.inl 0, .inl v1]) (M' := M) rfl rfl rfl rfl ?_
        refine zg_iadd dX5_countBuffered_26 ?_
        refine zg_istore_n dX5_countBuffered_27 (by decide) ?_
        refine zg_st (pc' := 28) (L' := [some (.inr 0), some (.inl (v1 + 0)), some (.inl v2)]) (S' := []) (M' := M) rfl rfl rfl rfl ?_
        refine zg_iinc (v := (v2 + 1)) dX5_countBuffered_28 rfl (by decide) rfl ?_
        refine zg_st (pc' := 31) (L' := [some (.inr 0), some (.inl (v1 + 0)), some (.inl (v2 + 1))]) (S' := []) (M' := M) rfl rfl rfl rfl ?_
        refine zg_goto (tgt := 4) dX5_countBuffered_31 rfl ?_
        refine zg_st (pc' := 4) (L' := [some (.inr 0), some (.inl (v1 + 0)), some (.inl (v2 + 1))]) (S' := []) (M' := M) rfl rfl rfl rfl ?_
        refine zg_drop (L' := [some (.inr 0), some (.inl (v1 + 0)), some (.inl (v2 + 1))]) ⟨rfl, rfl, rfl, trivial⟩ ?_
        exact ih (v1 + 0) (v2 + 1) (z_ge0 c7 hI) (z_up c7 hm)
def f_X5_countBuffered (M : Mem) : Int32 :=
  zlet (l_X5_countBuffered_4 M 49 0 0) (fun s1 =>
  s1.1)
set_option maxRecDepth 100000 in
set_option maxHeartbeats 4000000 in
theorem k_X5_countBuffered (q : ZQ) (M : Mem) : Zc (zgM q) mX5_countBuffered 0 0 [.inr 0] M (wI M (f_X5_countBuffered M)) := by
  refine Zc.of (by decide) zi_X5_countBuffered.1 (Nat.le_of_ble_eq_true rfl) rfl ?_
  show Zg _ _ _ _ _ _ (zlet (f_X5_countBuffered M) (wI M)) _ _ _ _
  unfold f_X5_countBuffered
  refine zg_iconst (v := 0) dX5_countBuffered_0 rfl ?_
  refine zg_istore_n dX5_countBuffered_1 (by decide) ?_
  refine zg_st (pc' := 2) (L' := [some (.inr 0), some (.inl 0), none]) (S' := []) (M' := M) rfl rfl rfl rfl ?_
  refine zg_iconst (v := 0) dX5_countBuffered_2 rfl ?_
  refine zg_istore_n dX5_countBuffered_3 (by decide) ?_
  refine zg_st (pc' := 4) (L' := [some (.inr 0), some (.inl 0), some (.inl 0)]) (S' := []) (M' := M) rfl rfl rfl rfl ?_
  refine zg_asc ?_
  refine zg_drop (L' := [some (.inr 0), some (.inl 0), some (.inl 0)]) ⟨rfl, rfl, rfl, trivial⟩ ?_
  refine kl_X5_countBuffered_4 q M (fun s1 hI_s1 => ?_) 49 0 0 (by decide) (by decide)
  try dsimp only [Sum.elim_inr]
  refine zg_st (pc' := 34) (L' := [some (.inr 0), some (.inl s1.1), some (.inl s1.2)]) (S' := []) (M' := M) rfl rfl rfl rfl ?_
  refine zg_iload_n (x := s1.1) dX5_countBuffered_34 rfl ?_
  exact zg_iret dX5_countBuffered_35 rfl rfl ⟨by decide, by decide⟩ rfl
theorem dX5_abandon_0 : decode cX5_abandon 0 = .ok (.aload_n 0, 1) := by decide +kernel
theorem dX5_abandon_1 : decode cX5_abandon 1 = .ok (.invokevirtual 145, 3) := by decide +kernel
theorem dX5_abandon_4 : decode cX5_abandon 4 = .ok (.istore_n 1, 1) := by decide +kernel
theorem dX5_abandon_5 : decode cX5_abandon 5 = .ok (.iconst 0, 1) := by decide +kernel
theorem dX5_abandon_6 : decode cX5_abandon 6 = .ok (.istore_n 2, 1) := by decide +kernel
theorem dX5_abandon_7 : decode cX5_abandon 7 = .ok (.iload_n 2, 1) := by decide +kernel
theorem dX5_abandon_8 : decode cX5_abandon 8 = .ok (.bipush 48, 2) := by decide +kernel
theorem dX5_abandon_10 : decode cX5_abandon 10 = .ok (.if_icmp .ge 16, 3) := by decide +kernel
theorem dX5_abandon_13 : decode cX5_abandon 13 = .ok (.aload_n 0, 1) := by decide +kernel
theorem dX5_abandon_14 : decode cX5_abandon 14 = .ok (.getfield 20, 3) := by decide +kernel
theorem dX5_abandon_17 : decode cX5_abandon 17 = .ok (.iload_n 2, 1) := by decide +kernel
theorem dX5_abandon_18 : decode cX5_abandon 18 = .ok (.iconst (-1), 1) := by decide +kernel
theorem dX5_abandon_19 : decode cX5_abandon 19 = .ok (.iastore, 1) := by decide +kernel
theorem dX5_abandon_20 : decode cX5_abandon 20 = .ok (.iinc 2 1, 3) := by decide +kernel
theorem dX5_abandon_23 : decode cX5_abandon 23 = .ok (.goto (-16), 3) := by decide +kernel
theorem dX5_abandon_26 : decode cX5_abandon 26 = .ok (.aload_n 0, 1) := by decide +kernel
theorem dX5_abandon_27 : decode cX5_abandon 27 = .ok (.iload_n 1, 1) := by decide +kernel
theorem dX5_abandon_28 : decode cX5_abandon 28 = .ok (.invokevirtual 149, 3) := by decide +kernel
theorem dX5_abandon_31 : decode cX5_abandon 31 = .ok (.ireturn, 1) := by decide +kernel
def b_X5_abandon_7 (x1 : Int32) (rec : Int32 → Mem → Int32 × Mem) (v2 : Int32) (N : Mem) : Int32 × Mem :=
  if 48 ≤ v2 then (v2, N)
  else rec (v2 + 1) (mup N 3 v2.toNatClampNeg (-1))
def l_X5_abandon_7 (x1 : Int32) : Nat → Int32 → Mem → Int32 × Mem
  | 0, v2, N => (v2, N)
  | n + 1, v2, N => b_X5_abandon_7 x1 (l_X5_abandon_7 x1 n) v2 N
set_option maxRecDepth 100000 in
set_option maxHeartbeats 4000000 in
theorem kl_X5_abandon_7 (q : ZQ) (x1 : Int32) {K : Int32 × Mem → ZR} (hx : ∀ e : Int32 × Mem, (0 : Int) ≤ e.1.toInt → Zg (zgM q) mX5_abandon 0 0 0 0 (K e) 26 [some (.inr 0), some (.inl x1), some (.inl e.1)] [] e.2) :
    ∀ (n : Nat) (v2 : Int32) (N : Mem), (0 : Int) ≤ v2.toInt → ((48 : Int32).toInt - (v2 : Int32).toInt).toNat < n → Zg (zgM q) mX5_abandon 0 0 0 0 (zlet (l_X5_abandon_7 x1 n v2 N) K) 7 [some (.inr 0), some (.inl x1), some (.inl v2)] [] N := by
  intro n
  induction n with
  | zero => intro v2 N hI hm; exact absurd hm (Nat.not_lt_zero _)
  | succ n ih =>
    intro v2 N hI hm
    show Zg _ _ _ _ _ _ (zlet (b_X5_abandon_7 x1 (l_X5_abandon_7 x1 n) v2 N) K) _ _ _ _
    unfold b_X5_abandon_7
    refine zg_iload_n (x := v2) dX5_abandon_7 rfl ?_
    refine zg_bipush (v := 48) dX5_abandon_8 rfl ?_
    refine zg_icmpz (tgt := 26) dX5_abandon_10 rfl rfl (fun c10 => ?_) (fun c10 => ?_)
    · refine zg_st (pc' := 26) (L' := [some (.inr 0), some (.inl x1), some (.inl v2)]) (S' := []) (M' := N) rfl rfl rfl rfl ?_
      refine zg_drop (L' := [some (.inr 0), some (.inl x1), some (.inl v2)]) ⟨rfl, rfl, rfl, trivial⟩ ?_
      exact hx (v2, N) hI
    · refine zg_st (pc' := 13) (L' := [some (.inr 0), some (.inl x1), some (.inl v2)]) (S' := []) (M' := N) rfl rfl rfl rfl ?_
      refine zg_aload_n (x := 0) dX5_abandon_13 rfl ?_
      refine zg_getf (v := .inr 3) dX5_abandon_14 zf_X5_20 rfl rfl rfl ?_
      refine zg_iload_n (x := v2) dX5_abandon_17 rfl ?_
      refine zg_iconst (v := (-1)) dX5_abandon_18 rfl ?_
      refine zg_iast dX5_abandon_19 rfl (z_lt c10 rfl hI) ?_
      refine zg_iinc (v := (v2 + 1)) dX5_abandon_20 rfl (by decide) rfl ?_
      refine zg_st (pc' := 23) (L' := [some (.inr 0), some (.inl x1), some (.inl (v2 + 1))]) (S' := []) (M' := (mup N 3 v2.toNatClampNeg (-1))) rfl rfl rfl rfl ?_
      refine zg_goto (tgt := 7) dX5_abandon_23 rfl ?_
      refine zg_st (pc' := 7) (L' := [some (.inr 0), some (.inl x1), some (.inl (v2 + 1))]) (S' := []) (M' := (mup N 3 v2.toNatClampNeg (-1))) rfl rfl rfl rfl ?_
      refine zg_drop (L' := [some (.inr 0), some (.inl x1), some (.inl (v2 + 1))]) ⟨rfl, rfl, rfl, trivial⟩ ?_
      exact ih (v2 + 1) (mup N 3 v2.toNatClampNeg (-1)) (z_ge0 c10 hI) (z_up c10 hm)
def f_X5_abandon (M : Mem) : (Int32 × Mem) :=
  zlet (l_X5_abandon_7 (f_X5_countBuffered M) 49 0 M) (fun s1 =>
  ((f_X5_countBuffered M), (mup s1.2 0 0 0)))
set_option maxRecDepth 100000 in
set_option maxHeartbeats 4000000 in
theorem k_X5_abandon (q : ZQ) (M : Mem) : Zc (zgM q) mX5_abandon 0 0 [.inr 0] M (wIM (f_X5_abandon M)) := by
  refine Zc.of (by decide) zi_X5_abandon.1 (Nat.le_of_ble_eq_true rfl) rfl ?_
  show Zg _ _ _ _ _ _ (zlet (f_X5_abandon M) wIM) _ _ _ _
  unfold f_X5_abandon
  refine zg_aload_n (x := 0) dX5_abandon_0 rfl ?_
  refine zg_cV1 (As := []) (S := []) (v := (f_X5_countBuffered M)) dX5_abandon_1 zk_X5_145 (k_X5_countBuffered q M) rfl rfl ⟨by decide, by decide⟩ ⟨by decide, by decide⟩ rfl (Nat.le_of_ble_eq_true rfl) ?_
  refine zg_st (pc' := 4) (L' := [some (.inr 0), none, none]) (S' := [.inl (f_X5_countBuffered M)]) (M' := M) rfl rfl rfl rfl ?_
  refine zg_istore_n dX5_abandon_4 (by decide) ?_
  refine zg_st (pc' := 5) (L' := [some (.inr 0), some (.inl (f_X5_countBuffered M)), none]) (S' := []) (M' := M) rfl rfl rfl rfl ?_
  refine zg_iconst (v := 0) dX5_abandon_5 rfl ?_
  refine zg_istore_n dX5_abandon_6 (by decide) ?_
  refine zg_st (pc' := 7) (L' := [some (.inr 0), some (.inl (f_X5_countBuffered M)), some (.inl 0)]) (S' := []) (M' := M) rfl rfl rfl rfl ?_
  refine zg_asc ?_
  refine zg_drop (L' := [some (.inr 0), some (.inl (f_X5_countBuffered M)), some (.inl 0)]) ⟨rfl, rfl, rfl, trivial⟩ ?_
  refine kl_X5_abandon_7 q (f_X5_countBuffered M)  (fun s1 hI_s1 => ?_) 49 0 M (by decide) (by decide)
  try dsimp only [Sum.elim_inr]
  refine zg_st (pc' := 26) (L' := [some (.inr 0), some (.inl (f_X5_countBuffered M)), some (.inl s1.1)]) (S' := []) (M' := s1.2) rfl rfl rfl rfl ?_
  refine zg_aload_n (x := 0) dX5_abandon_26 rfl ?_
  refine zg_iload_n (x := (f_X5_countBuffered M)) dX5_abandon_27 rfl ?_
  refine zg_cV1 (As := [.inl (f_X5_countBuffered M)]) (S := []) (v := (f_X5_countBuffered M)) (N0 := (mup s1.2 0 0 0)) dX5_abandon_28 zk_X5_149 (k_X5_fine q (f_X5_countBuffered M) s1.2) rfl rfl ⟨by decide, by decide⟩ ⟨by decide, by decide⟩ rfl (Nat.le_of_ble_eq_true rfl) ?_
  refine zg_st (pc' := 31) (L' := [some (.inr 0), some (.inl (f_X5_countBuffered M)), some (.inl s1.1)]) (S' := [.inl (f_X5_countBuffered M)]) (M' := (mup s1.2 0 0 0)) rfl rfl rfl rfl ?_
  exact zg_iret dX5_abandon_31 rfl rfl ⟨by decide, by decide⟩ rfl
theorem dX5_group_0 : decode cX5_group 0 = .ok (.aload_n 0, 1) := by decide +kernel
theorem dX5_group_1 : decode cX5_group 1 = .ok (.aload_n 0, 1) := by decide +kernel
theorem dX5_group_2 : decode cX5_group 2 = .ok (.getfield 7, 3) := by decide +kernel
theorem dX5_group_5 : decode cX5_group 5 = .ok (.invokevirtual 149, 3) := by decide +kernel
theorem dX5_group_8 : decode cX5_group 8 = .ok (.ireturn, 1) := by decide +kernel
def f_X5_group (M : Mem) : (Int32 × Mem) :=
  ((M 0 1), (mup M 0 0 0))
set_option maxRecDepth 100000 in
set_option maxHeartbeats 4000000 in
theorem k_X5_group (q : ZQ) (M : Mem) : Zc (zgM q) mX5_group 0 0 [.inr 0] M (wIM (f_X5_group M)) := by
  refine Zc.of (by decide) zi_X5_group.1 (Nat.le_of_ble_eq_true rfl) rfl ?_
  show Zg _ _ _ _ _ _ (zlet (f_X5_group M) wIM) _ _ _ _
  unfold f_X5_group
  refine zg_aload_n (x := 0) dX5_group_0 rfl ?_
  refine zg_aload_n (x := 0) dX5_group_1 rfl ?_
  refine zg_getf (v := .inl (M 0 1)) dX5_group_2 zf_X5_7 rfl rfl rfl ?_
  refine zg_cV1 (As := [.inl (M 0 1)]) (S := []) (v := (M 0 1)) (N0 := (mup M 0 0 0)) dX5_group_5 zk_X5_149 (k_X5_fine q (M 0 1) M) rfl rfl ⟨by decide, by decide⟩ ⟨by decide, by decide⟩ rfl (Nat.le_of_ble_eq_true rfl) ?_
  refine zg_st (pc' := 8) (L' := [some (.inr 0)]) (S' := [.inl (M 0 1)]) (M' := (mup M 0 0 0)) rfl rfl rfl rfl ?_
  exact zg_iret dX5_group_8 rfl rfl ⟨by decide, by decide⟩ rfl
theorem dX5_buffered_0 : decode cX5_buffered 0 = .ok (.aload_n 0, 1) := by decide +kernel
theorem dX5_buffered_1 : decode cX5_buffered 1 = .ok (.aload_n 0, 1) := by decide +kernel
theorem dX5_buffered_2 : decode cX5_buffered 2 = .ok (.invokevirtual 145, 3) := by decide +kernel
theorem dX5_buffered_5 : decode cX5_buffered 5 = .ok (.invokevirtual 149, 3) := by decide +kernel
theorem dX5_buffered_8 : decode cX5_buffered 8 = .ok (.ireturn, 1) := by decide +kernel
def f_X5_buffered (M : Mem) : (Int32 × Mem) :=
  ((f_X5_countBuffered M), (mup M 0 0 0))
set_option maxRecDepth 100000 in
set_option maxHeartbeats 4000000 in
theorem k_X5_buffered (q : ZQ) (M : Mem) : Zc (zgM q) mX5_buffered 0 0 [.inr 0] M (wIM (f_X5_buffered M)) := by
  refine Zc.of (by decide) zi_X5_buffered.1 (Nat.le_of_ble_eq_true rfl) rfl ?_
  show Zg _ _ _ _ _ _ (zlet (f_X5_buffered M) wIM) _ _ _ _
  unfold f_X5_buffered
  refine zg_aload_n (x := 0) dX5_buffered_0 rfl ?_
  refine zg_aload_n (x := 0) dX5_buffered_1 rfl ?_
  refine zg_cV1 (As := []) (S := [.inr 0]) (v := (f_X5_countBuffered M)) dX5_buffered_2 zk_X5_145 (k_X5_countBuffered q M) rfl rfl ⟨by decide, by decide⟩ ⟨by decide, by decide⟩ rfl (Nat.le_of_ble_eq_true rfl) ?_
  refine zg_st (pc' := 5) (L' := [some (.inr 0)]) (S' := [.inl (f_X5_countBuffered M), .inr 0]) (M' := M) rfl rfl rfl rfl ?_
  refine zg_cV1 (As := [.inl (f_X5_countBuffered M)]) (S := []) (v := (f_X5_countBuffered M)) (N0 := (mup M 0 0 0)) dX5_buffered_5 zk_X5_149 (k_X5_fine q (f_X5_countBuffered M) M) rfl rfl ⟨by decide, by decide⟩ ⟨by decide, by decide⟩ rfl (Nat.le_of_ble_eq_true rfl) ?_
  refine zg_st (pc' := 8) (L' := [some (.inr 0)]) (S' := [.inl (f_X5_countBuffered M)]) (M' := (mup M 0 0 0)) rfl rfl rfl rfl ?_
  exact zg_iret dX5_buffered_8 rfl rfl ⟨by decide, by decide⟩ rfl
theorem dX5_offline_0 : decode cX5_offline 0 = .ok (.aload_n 0, 1) := by decide +kernel
theorem dX5_offline_1 : decode cX5_offline 1 = .ok (.iload_n 1, 1) := by decide +kernel
theorem dX5_offline_2 : decode cX5_offline 2 = .ok (.iload_n 2, 1) := by decide +kernel
theorem dX5_offline_3 : decode cX5_offline 3 = .ok (.invokestatic 152, 3) := by decide +kernel
theorem dX5_offline_6 : decode cX5_offline 6 = .ok (.ifCond .ne 7, 3) := by decide +kernel
theorem dX5_offline_9 : decode cX5_offline 9 = .ok (.iconst 1, 1) := by decide +kernel
theorem dX5_offline_10 : decode cX5_offline 10 = .ok (.goto 32, 3) := by decide +kernel
theorem dX5_offline_13 : decode cX5_offline 13 = .ok (.aload_n 0, 1) := by decide +kernel
theorem dX5_offline_14 : decode cX5_offline 14 = .ok (.getfield 42, 3) := by decide +kernel
theorem dX5_offline_17 : decode cX5_offline 17 = .ok (.iconst 2, 1) := by decide +kernel
theorem dX5_offline_18 : decode cX5_offline 18 = .ok (.iload_n 1, 1) := by decide +kernel
theorem dX5_offline_19 : decode cX5_offline 19 = .ok (.imul, 1) := by decide +kernel
theorem dX5_offline_20 : decode cX5_offline 20 = .ok (.baload, 1) := by decide +kernel
theorem dX5_offline_21 : decode cX5_offline 21 = .ok (.ifCond .ne 16, 3) := by decide +kernel
theorem dX5_offline_24 : decode cX5_offline 24 = .ok (.aload_n 0, 1) := by decide +kernel
theorem dX5_offline_25 : decode cX5_offline 25 = .ok (.getfield 42, 3) := by decide +kernel
theorem dX5_offline_28 : decode cX5_offline 28 = .ok (.iconst 2, 1) := by decide +kernel
theorem dX5_offline_29 : decode cX5_offline 29 = .ok (.iload_n 1, 1) := by decide +kernel
theorem dX5_offline_30 : decode cX5_offline 30 = .ok (.imul, 1) := by decide +kernel
theorem dX5_offline_31 : decode cX5_offline 31 = .ok (.iconst 1, 1) := by decide +kernel
theorem dX5_offline_32 : decode cX5_offline 32 = .ok (.iadd, 1) := by decide +kernel
theorem dX5_offline_33 : decode cX5_offline 33 = .ok (.baload, 1) := by decide +kernel
theorem dX5_offline_34 : decode cX5_offline 34 = .ok (.ifCond .eq 7, 3) := by decide +kernel
theorem dX5_offline_37 : decode cX5_offline 37 = .ok (.iconst 2, 1) := by decide +kernel
theorem dX5_offline_38 : decode cX5_offline 38 = .ok (.goto 4, 3) := by decide +kernel
theorem dX5_offline_41 : decode cX5_offline 41 = .ok (.iconst 0, 1) := by decide +kernel
theorem dX5_offline_42 : decode cX5_offline 42 = .ok (.invokevirtual 74, 3) := by decide +kernel
theorem dX5_offline_45 : decode cX5_offline 45 = .ok (.ifCond .ne 30, 3) := by decide +kernel
theorem dX5_offline_48 : decode cX5_offline 48 = .ok (.aload_n 0, 1) := by decide +kernel
theorem dX5_offline_49 : decode cX5_offline 49 = .ok (.getfield 42, 3) := by decide +kernel
theorem dX5_offline_52 : decode cX5_offline 52 = .ok (.iconst 2, 1) := by decide +kernel
theorem dX5_offline_53 : decode cX5_offline 53 = .ok (.iload_n 1, 1) := by decide +kernel
theorem dX5_offline_54 : decode cX5_offline 54 = .ok (.imul, 1) := by decide +kernel
theorem dX5_offline_55 : decode cX5_offline 55 = .ok (.iload_n 2, 1) := by decide +kernel
theorem dX5_offline_56 : decode cX5_offline 56 = .ok (.iadd, 1) := by decide +kernel
theorem dX5_offline_57 : decode cX5_offline 57 = .ok (.iconst 1, 1) := by decide +kernel
theorem dX5_offline_58 : decode cX5_offline 58 = .ok (.bastore, 1) := by decide +kernel
theorem dX5_offline_59 : decode cX5_offline 59 = .ok (.aload_n 0, 1) := by decide +kernel
theorem dX5_offline_60 : decode cX5_offline 60 = .ok (.getfield 45, 3) := by decide +kernel
theorem dX5_offline_63 : decode cX5_offline 63 = .ok (.iconst 2, 1) := by decide +kernel
theorem dX5_offline_64 : decode cX5_offline 64 = .ok (.iload_n 1, 1) := by decide +kernel
theorem dX5_offline_65 : decode cX5_offline 65 = .ok (.imul, 1) := by decide +kernel
theorem dX5_offline_66 : decode cX5_offline 66 = .ok (.iload_n 2, 1) := by decide +kernel
theorem dX5_offline_67 : decode cX5_offline 67 = .ok (.iadd, 1) := by decide +kernel
theorem dX5_offline_68 : decode cX5_offline 68 = .ok (.aload_n 0, 1) := by decide +kernel
theorem dX5_offline_69 : decode cX5_offline 69 = .ok (.getfield 7, 3) := by decide +kernel
theorem dX5_offline_72 : decode cX5_offline 72 = .ok (.iconst 1, 1) := by decide +kernel
theorem dX5_offline_73 : decode cX5_offline 73 = .ok (.isub, 1) := by decide +kernel
theorem dX5_offline_74 : decode cX5_offline 74 = .ok (.iastore, 1) := by decide +kernel
theorem dX5_offline_75 : decode cX5_offline 75 = .ok (.return_, 1) := by decide +kernel
def f_X5_offline (p1 : Int32) (p2 : Int32) (M : Mem) : Mem :=
  if (f_X5_isSide p1 p2) then if ¬ (M 10 (2 * p1).toNatClampNeg) = 0 then (mup M 0 0 2)
    else if (M 10 ((2 * p1) + 1).toNatClampNeg) = 0 then (mup (mup (mup M 0 0 0) 10 ((2 * p1) + p2).toNatClampNeg 1) 11 ((2 * p1) + p2).toNatClampNeg (((mup (mup M 0 0 0) 10 ((2 * p1) + p2).toNatClampNeg 1) 0 1) - 1))
    else (mup M 0 0 2)
  else (mup M 0 0 1)
set_option maxRecDepth 100000 in
set_option maxHeartbeats 4000000 in
theorem k_X5_offline (q : ZQ) (p1 : Int32) (p2 : Int32) (M : Mem) : Zc (zgM q) mX5_offline 0 0 [.inr 0, .inl p1, .inl p2] M (wV (f_X5_offline p1 p2 M)) := by
  refine Zc.of (by decide) zi_X5_offline.1 (Nat.le_of_ble_eq_true rfl) rfl ?_
  show Zg _ _ _ _ _ _ (zlet (f_X5_offline p1 p2 M) wV) _ _ _ _
  unfold f_X5_offline
  refine zg_aload_n (x := 0) dX5_offline_0 rfl ?_
  refine zg_iload_n (x := p1) dX5_offline_1 rfl ?_
  refine zg_iload_n (x := p2) dX5_offline_2 rfl ?_
  refine zg_cS1 (As := [.inl p1, .inl p2]) (S := [.inr 0]) (v := bI ((f_X5_isSide p1 p2))) dX5_offline_3 zk_X5_152 (k_X5_isSide q p1 p2 M) rfl ⟨by decide, by decide⟩ ⟨by decide, by decide⟩ rfl (Nat.le_of_ble_eq_true rfl) ?_
  refine zg_st (pc' := 6) (L' := [some (.inr 0), some (.inl p1), some (.inl p2)]) (S' := [.inl (bI ((f_X5_isSide p1 p2))), .inr 0]) (M' := M) rfl rfl rfl rfl ?_
  refine zg_ifbn (tgt := 13) dX5_offline_6 rfl (fun c6 => ?_) (fun c6 => ?_)
  · refine zg_st (pc' := 13) (L' := [some (.inr 0), some (.inl p1), some (.inl p2)]) (S' := [.inr 0]) (M' := M) rfl rfl rfl rfl ?_
    refine zg_aload_n (x := 0) dX5_offline_13 rfl ?_
    refine zg_getf (v := .inr 10) dX5_offline_14 zf_X5_42 rfl rfl rfl ?_
    refine zg_iconst (v := 2) dX5_offline_17 rfl ?_
    refine zg_iload_n (x := p1) dX5_offline_18 rfl ?_
    refine zg_imul dX5_offline_19 ?_
    refine zg_zald dX5_offline_20 rfl (by first | exact z_s6 c6 | exact z_s6a c6 | exact z_s6b c6) ?_
    refine zg_ifz (tgt := 37) dX5_offline_21 rfl rfl (fun c21 => ?_) (fun c21 => ?_)
    · refine zg_st (pc' := 37) (L' := [some (.inr 0), some (.inl p1), some (.inl p2)]) (S' := [.inr 0]) (M' := M) rfl rfl rfl rfl ?_
      refine zg_iconst (v := 2) dX5_offline_37 rfl ?_
      refine zg_goto (tgt := 42) dX5_offline_38 rfl ?_
      refine zg_st (pc' := 42) (L' := [some (.inr 0), some (.inl p1), some (.inl p2)]) (S' := [.inl 2, .inr 0]) (M' := M) rfl rfl rfl rfl ?_
      refine zg_cV1 (As := [.inl 2]) (S := []) (v := 1) (N0 := (mup M 0 0 2)) dX5_offline_42 zk_X5_74 (k_X5_refused q 2 M) rfl rfl ⟨by decide, by decide⟩ ⟨by decide, by decide⟩ rfl (Nat.le_of_ble_eq_true rfl) ?_
      refine zg_st (pc' := 45) (L' := [some (.inr 0), some (.inl p1), some (.inl p2)]) (S' := [.inl 1]) (M' := (mup M 0 0 2)) rfl rfl rfl rfl ?_
      refine zg_jt (tgt := 75) dX5_offline_45 rfl (show ¬ (1 : Int32) = 0 from by decide) ?_
      refine zg_st (pc' := 75) (L' := [some (.inr 0), some (.inl p1), some (.inl p2)]) (S' := []) (M' := (mup M 0 0 2)) rfl rfl rfl rfl ?_
      exact zg_vret dX5_offline_75 rfl ⟨by decide, by decide⟩ rfl
    · refine zg_st (pc' := 24) (L' := [some (.inr 0), some (.inl p1), some (.inl p2)]) (S' := [.inr 0]) (M' := M) rfl rfl rfl rfl ?_
      refine zg_aload_n (x := 0) dX5_offline_24 rfl ?_
      refine zg_getf (v := .inr 10) dX5_offline_25 zf_X5_42 rfl rfl rfl ?_
      refine zg_iconst (v := 2) dX5_offline_28 rfl ?_
      refine zg_iload_n (x := p1) dX5_offline_29 rfl ?_
      refine zg_imul dX5_offline_30 ?_
      refine zg_iconst (v := 1) dX5_offline_31 rfl ?_
      refine zg_iadd dX5_offline_32 ?_
      refine zg_zald dX5_offline_33 rfl (by first | exact z_s6 c6 | exact z_s6a c6 | exact z_s6b c6) ?_
      refine zg_ifz (tgt := 41) dX5_offline_34 rfl rfl (fun c34 => ?_) (fun c34 => ?_)
      · refine zg_st (pc' := 41) (L' := [some (.inr 0), some (.inl p1), some (.inl p2)]) (S' := [.inr 0]) (M' := M) rfl rfl rfl rfl ?_
        refine zg_iconst (v := 0) dX5_offline_41 rfl ?_
        refine zg_cV1 (As := [.inl 0]) (S := []) (v := 0) (N0 := (mup M 0 0 0)) dX5_offline_42 zk_X5_74 (k_X5_refused q 0 M) rfl rfl ⟨by decide, by decide⟩ ⟨by decide, by decide⟩ rfl (Nat.le_of_ble_eq_true rfl) ?_
        refine zg_st (pc' := 45) (L' := [some (.inr 0), some (.inl p1), some (.inl p2)]) (S' := [.inl 0]) (M' := (mup M 0 0 0)) rfl rfl rfl rfl ?_
        refine zg_jf (tgt := 75) dX5_offline_45 rfl (show ¬ (¬ (0 : Int32) = 0) from by decide) ?_
        refine zg_st (pc' := 48) (L' := [some (.inr 0), some (.inl p1), some (.inl p2)]) (S' := []) (M' := (mup M 0 0 0)) rfl rfl rfl rfl ?_
        refine zg_aload_n (x := 0) dX5_offline_48 rfl ?_
        refine zg_getf (v := .inr 10) dX5_offline_49 zf_X5_42 rfl rfl rfl ?_
        refine zg_iconst (v := 2) dX5_offline_52 rfl ?_
        refine zg_iload_n (x := p1) dX5_offline_53 rfl ?_
        refine zg_imul dX5_offline_54 ?_
        refine zg_iload_n (x := p2) dX5_offline_55 rfl ?_
        refine zg_iadd dX5_offline_56 ?_
        refine zg_iconst (v := 1) dX5_offline_57 rfl ?_
        refine zg_zast (v := 1) dX5_offline_58 rfl (by first | exact z_s6 c6 | exact z_s6a c6 | exact z_s6b c6) rfl ?_
        refine zg_aload_n (x := 0) dX5_offline_59 rfl ?_
        refine zg_getf (v := .inr 11) dX5_offline_60 zf_X5_45 rfl rfl rfl ?_
        refine zg_iconst (v := 2) dX5_offline_63 rfl ?_
        refine zg_iload_n (x := p1) dX5_offline_64 rfl ?_
        refine zg_imul dX5_offline_65 ?_
        refine zg_iload_n (x := p2) dX5_offline_66 rfl ?_
        refine zg_iadd dX5_offline_67 ?_
        refine zg_aload_n (x := 0) dX5_offline_68 rfl ?_
        refine zg_getf (v := .inl ((mup (mup M 0 0 0) 10 ((2 * p1) + p2).toNatClampNeg 1) 0 1)) dX5_offline_69 zf_X5_7 rfl rfl rfl ?_
        refine zg_iconst (v := 1) dX5_offline_72 rfl ?_
        refine zg_isub dX5_offline_73 ?_
        refine zg_iast dX5_offline_74 rfl (by first | exact z_s6 c6 | exact z_s6a c6 | exact z_s6b c6) ?_
        exact zg_vret dX5_offline_75 rfl ⟨by decide, by decide⟩ rfl
      · refine zg_st (pc' := 37) (L' := [some (.inr 0), some (.inl p1), some (.inl p2)]) (S' := [.inr 0]) (M' := M) rfl rfl rfl rfl ?_
        refine zg_iconst (v := 2) dX5_offline_37 rfl ?_
        refine zg_goto (tgt := 42) dX5_offline_38 rfl ?_
        refine zg_st (pc' := 42) (L' := [some (.inr 0), some (.inl p1), some (.inl p2)]) (S' := [.inl 2, .inr 0]) (M' := M) rfl rfl rfl rfl ?_
        refine zg_cV1 (As := [.inl 2]) (S := []) (v := 1) (N0 := (mup M 0 0 2)) dX5_offline_42 zk_X5_74 (k_X5_refused q 2 M) rfl rfl ⟨by decide, by decide⟩ ⟨by decide, by decide⟩ rfl (Nat.le_of_ble_eq_true rfl) ?_
        refine zg_st (pc' := 45) (L' := [some (.inr 0), some (.inl p1), some (.inl p2)]) (S' := [.inl 1]) (M' := (mup M 0 0 2)) rfl rfl rfl rfl ?_
        refine zg_jt (tgt := 75) dX5_offline_45 rfl (show ¬ (1 : Int32) = 0 from by decide) ?_
        refine zg_st (pc' := 75) (L' := [some (.inr 0), some (.inl p1), some (.inl p2)]) (S' := []) (M' := (mup M 0 0 2)) rfl rfl rfl rfl ?_
        exact zg_vret dX5_offline_75 rfl ⟨by decide, by decide⟩ rfl
  · refine zg_st (pc' := 9) (L' := [some (.inr 0), some (.inl p1), some (.inl p2)]) (S' := [.inr 0]) (M' := M) rfl rfl rfl rfl ?_
    refine zg_iconst (v := 1) dX5_offline_9 rfl ?_
    refine zg_goto (tgt := 42) dX5_offline_10 rfl ?_
    refine zg_st (pc' := 42) (L' := [some (.inr 0), some (.inl p1), some (.inl p2)]) (S' := [.inl 1, .inr 0]) (M' := M) rfl rfl rfl rfl ?_
    refine zg_cV1 (As := [.inl 1]) (S := []) (v := 1) (N0 := (mup M 0 0 1)) dX5_offline_42 zk_X5_74 (k_X5_refused q 1 M) rfl rfl ⟨by decide, by decide⟩ ⟨by decide, by decide⟩ rfl (Nat.le_of_ble_eq_true rfl) ?_
    refine zg_st (pc' := 45) (L' := [some (.inr 0), some (.inl p1), some (.inl p2)]) (S' := [.inl 1]) (M' := (mup M 0 0 1)) rfl rfl rfl rfl ?_
    refine zg_jt (tgt := 75) dX5_offline_45 rfl (show ¬ (1 : Int32) = 0 from by decide) ?_
    refine zg_st (pc' := 75) (L' := [some (.inr 0), some (.inl p1), some (.inl p2)]) (S' := []) (M' := (mup M 0 0 1)) rfl rfl rfl rfl ?_
    exact zg_vret dX5_offline_75 rfl ⟨by decide, by decide⟩ rfl
theorem dX5_isBehind_0 : decode cX5_isBehind 0 = .ok (.aload_n 0, 1) := by decide +kernel
theorem dX5_isBehind_1 : decode cX5_isBehind 1 = .ok (.iload_n 1, 1) := by decide +kernel
theorem dX5_isBehind_2 : decode cX5_isBehind 2 = .ok (.invokevirtual 92, 3) := by decide +kernel
theorem dX5_isBehind_5 : decode cX5_isBehind 5 = .ok (.ifCond .eq 17, 3) := by decide +kernel
theorem dX5_isBehind_8 : decode cX5_isBehind 8 = .ok (.aload_n 0, 1) := by decide +kernel
theorem dX5_isBehind_9 : decode cX5_isBehind 9 = .ok (.getfield 29, 3) := by decide +kernel
theorem dX5_isBehind_12 : decode cX5_isBehind 12 = .ok (.iload_n 1, 1) := by decide +kernel
theorem dX5_isBehind_13 : decode cX5_isBehind 13 = .ok (.iaload, 1) := by decide +kernel
theorem dX5_isBehind_14 : decode cX5_isBehind 14 = .ok (.iload_n 2, 1) := by decide +kernel
theorem dX5_isBehind_15 : decode cX5_isBehind 15 = .ok (.if_icmp .le 7, 3) := by decide +kernel
theorem dX5_isBehind_18 : decode cX5_isBehind 18 = .ok (.iconst 1, 1) := by decide +kernel
theorem dX5_isBehind_19 : decode cX5_isBehind 19 = .ok (.goto 4, 3) := by decide +kernel
theorem dX5_isBehind_22 : decode cX5_isBehind 22 = .ok (.iconst 0, 1) := by decide +kernel
theorem dX5_isBehind_23 : decode cX5_isBehind 23 = .ok (.ireturn, 1) := by decide +kernel
def f_X5_isBehind (p1 : Int32) (p2 : Int32) (M : Mem) : Bool :=
  if (f_X5_isThere p1 M) then if (M 6 p1.toNatClampNeg) ≤ p2 then false
    else true
  else false
set_option maxRecDepth 100000 in
set_option maxHeartbeats 4000000 in
theorem k_X5_isBehind (q : ZQ) (p1 : Int32) (p2 : Int32) (M : Mem) (hp : vp_in p1 53) : Zc (zgM q) mX5_isBehind 0 0 [.inr 0, .inl p1, .inl p2] M (wB M (f_X5_isBehind p1 p2 M)) := by
  refine Zc.of (by decide) zi_X5_isBehind.1 (Nat.le_of_ble_eq_true rfl) rfl ?_
  show Zg _ _ _ _ _ _ (zlet (f_X5_isBehind p1 p2 M) (wB M)) _ _ _ _
  unfold f_X5_isBehind
  refine zg_aload_n (x := 0) dX5_isBehind_0 rfl ?_
  refine zg_iload_n (x := p1) dX5_isBehind_1 rfl ?_
  refine zg_cV1 (As := [.inl p1]) (S := []) (v := bI ((f_X5_isThere p1 M))) dX5_isBehind_2 zk_X5_92 (k_X5_isThere q p1 M hp) rfl rfl ⟨by decide, by decide⟩ ⟨by decide, by decide⟩ rfl (Nat.le_of_ble_eq_true rfl) ?_
  refine zg_st (pc' := 5) (L' := [some (.inr 0), some (.inl p1), some (.inl p2)]) (S' := [.inl (bI ((f_X5_isThere p1 M)))]) (M' := M) rfl rfl rfl rfl ?_
  refine zg_ifbe (tgt := 22) dX5_isBehind_5 rfl (fun c5 => ?_) (fun c5 => ?_)
  · refine zg_st (pc' := 8) (L' := [some (.inr 0), some (.inl p1), some (.inl p2)]) (S' := []) (M' := M) rfl rfl rfl rfl ?_
    refine zg_aload_n (x := 0) dX5_isBehind_8 rfl ?_
    refine zg_getf (v := .inr 6) dX5_isBehind_9 zf_X5_29 rfl rfl rfl ?_
    refine zg_iload_n (x := p1) dX5_isBehind_12 rfl ?_
    refine zg_iald dX5_isBehind_13 rfl hp ?_
    refine zg_iload_n (x := p2) dX5_isBehind_14 rfl ?_
    refine zg_icmpz (tgt := 22) dX5_isBehind_15 rfl rfl (fun c15 => ?_) (fun c15 => ?_)
    · refine zg_st (pc' := 22) (L' := [some (.inr 0), some (.inl p1), some (.inl p2)]) (S' := []) (M' := M) rfl rfl rfl rfl ?_
      refine zg_iconst (v := 0) dX5_isBehind_22 rfl ?_
      exact zg_iret dX5_isBehind_23 rfl rfl ⟨by decide, by decide⟩ rfl
    · refine zg_st (pc' := 18) (L' := [some (.inr 0), some (.inl p1), some (.inl p2)]) (S' := []) (M' := M) rfl rfl rfl rfl ?_
      refine zg_iconst (v := 1) dX5_isBehind_18 rfl ?_
      refine zg_goto (tgt := 23) dX5_isBehind_19 rfl ?_
      refine zg_st (pc' := 23) (L' := [some (.inr 0), some (.inl p1), some (.inl p2)]) (S' := [.inl 1]) (M' := M) rfl rfl rfl rfl ?_
      exact zg_iret dX5_isBehind_23 rfl rfl ⟨by decide, by decide⟩ rfl
  · refine zg_st (pc' := 22) (L' := [some (.inr 0), some (.inl p1), some (.inl p2)]) (S' := []) (M' := M) rfl rfl rfl rfl ?_
    refine zg_iconst (v := 0) dX5_isBehind_22 rfl ?_
    exact zg_iret dX5_isBehind_23 rfl rfl ⟨by decide, by decide⟩ rfl
theorem dX5_copy_0 : decode cX5_copy 0 = .ok (.iload_n 1, 1) := by decide +kernel
theorem dX5_copy_1 : decode cX5_copy 1 = .ok (.iconst (-1), 1) := by decide +kernel
theorem dX5_copy_2 : decode cX5_copy 2 = .ok (.if_icmp .eq 11, 3) := by decide +kernel
theorem dX5_copy_5 : decode cX5_copy 5 = .ok (.iload_n 1, 1) := by decide +kernel
theorem dX5_copy_6 : decode cX5_copy 6 = .ok (.bipush 40, 2) := by decide +kernel
theorem dX5_copy_8 : decode cX5_copy 8 = .ok (.idiv, 1) := by decide +kernel
theorem dX5_copy_9 : decode cX5_copy 9 = .ok (.iload_n 3, 1) := by decide +kernel
theorem dX5_copy_10 : decode cX5_copy 10 = .ok (.if_icmp .eq 5, 3) := by decide +kernel
theorem dX5_copy_13 : decode cX5_copy 13 = .ok (.iconst 0, 1) := by decide +kernel
theorem dX5_copy_14 : decode cX5_copy 14 = .ok (.ireturn, 1) := by decide +kernel
theorem dX5_copy_15 : decode cX5_copy 15 = .ok (.aload_n 0, 1) := by decide +kernel
theorem dX5_copy_16 : decode cX5_copy 16 = .ok (.getfield 39, 3) := by decide +kernel
theorem dX5_copy_19 : decode cX5_copy 19 = .ok (.iconst 2, 1) := by decide +kernel
theorem dX5_copy_20 : decode cX5_copy 20 = .ok (.iload_n 1, 1) := by decide +kernel
theorem dX5_copy_21 : decode cX5_copy 21 = .ok (.imul, 1) := by decide +kernel
theorem dX5_copy_22 : decode cX5_copy 22 = .ok (.iload 4, 2) := by decide +kernel
theorem dX5_copy_24 : decode cX5_copy 24 = .ok (.iadd, 1) := by decide +kernel
theorem dX5_copy_25 : decode cX5_copy 25 = .ok (.aload_n 0, 1) := by decide +kernel
theorem dX5_copy_26 : decode cX5_copy 26 = .ok (.getfield 39, 3) := by decide +kernel
theorem dX5_copy_29 : decode cX5_copy 29 = .ok (.iconst 2, 1) := by decide +kernel
theorem dX5_copy_30 : decode cX5_copy 30 = .ok (.iload_n 1, 1) := by decide +kernel
theorem dX5_copy_31 : decode cX5_copy 31 = .ok (.imul, 1) := by decide +kernel
theorem dX5_copy_32 : decode cX5_copy 32 = .ok (.iconst 1, 1) := by decide +kernel
theorem dX5_copy_33 : decode cX5_copy 33 = .ok (.iadd, 1) := by decide +kernel
theorem dX5_copy_34 : decode cX5_copy 34 = .ok (.iload 4, 2) := by decide +kernel
theorem dX5_copy_36 : decode cX5_copy 36 = .ok (.isub, 1) := by decide +kernel
theorem dX5_copy_37 : decode cX5_copy 37 = .ok (.baload, 1) := by decide +kernel
theorem dX5_copy_38 : decode cX5_copy 38 = .ok (.ifCond .eq 25, 3) := by decide +kernel
theorem dX5_copy_41 : decode cX5_copy 41 = .ok (.aload_n 0, 1) := by decide +kernel
theorem dX5_copy_42 : decode cX5_copy 42 = .ok (.iload_n 2, 1) := by decide +kernel
theorem dX5_copy_43 : decode cX5_copy 43 = .ok (.iconst 0, 1) := by decide +kernel
theorem dX5_copy_44 : decode cX5_copy 44 = .ok (.invokevirtual 82, 3) := by decide +kernel
theorem dX5_copy_47 : decode cX5_copy 47 = .ok (.ifCond .ne 16, 3) := by decide +kernel
theorem dX5_copy_50 : decode cX5_copy 50 = .ok (.aload_n 0, 1) := by decide +kernel
theorem dX5_copy_51 : decode cX5_copy 51 = .ok (.iload_n 2, 1) := by decide +kernel
theorem dX5_copy_52 : decode cX5_copy 52 = .ok (.iconst 1, 1) := by decide +kernel
theorem dX5_copy_53 : decode cX5_copy 53 = .ok (.invokevirtual 82, 3) := by decide +kernel
theorem dX5_copy_56 : decode cX5_copy 56 = .ok (.ifCond .ne 7, 3) := by decide +kernel
theorem dX5_copy_59 : decode cX5_copy 59 = .ok (.iconst 1, 1) := by decide +kernel
theorem dX5_copy_60 : decode cX5_copy 60 = .ok (.goto 4, 3) := by decide +kernel
theorem dX5_copy_63 : decode cX5_copy 63 = .ok (.iconst 0, 1) := by decide +kernel
theorem dX5_copy_64 : decode cX5_copy 64 = .ok (.bastore, 1) := by decide +kernel
theorem dX5_copy_65 : decode cX5_copy 65 = .ok (.iconst 1, 1) := by decide +kernel
theorem dX5_copy_66 : decode cX5_copy 66 = .ok (.ireturn, 1) := by decide +kernel
def f_X5_copy (p1 : Int32) (p2 : Int32) (p3 : Int32) (p4 : Int32) (M : Mem) : (Int32 × Mem) :=
  if p1 = (-1) then (0, M)
  else if (p1 / 40) = p3 then if (M 9 (((2 * p1) + 1) - p4).toNatClampNeg) = 0 then (1, (mup M 9 ((2 * p1) + p4).toNatClampNeg 0))
    else if (f_X5_isGood p2 0 M) then (1, (mup M 9 ((2 * p1) + p4).toNatClampNeg 0))
    else if (f_X5_isGood p2 1 M) then (1, (mup M 9 ((2 * p1) + p4).toNatClampNeg 0))
    else (1, (mup M 9 ((2 * p1) + p4).toNatClampNeg 1))
  else (0, M)
set_option maxRecDepth 100000 in
set_option maxHeartbeats 4000000 in
theorem k_X5_copy (q : ZQ) (p1 : Int32) (p2 : Int32) (p3 : Int32) (p4 : Int32) (M : Mem) (hp : (-1 ≤ p1.toInt ∧ p1.toInt < 120) ∧ (-1 ≤ p2.toInt ∧ p2.toInt < 120) ∧ 0 ≤ p4.toInt ∧ p4.toInt < 2) : Zc (zgM q) mX5_copy 0 0 [.inr 0, .inl p1, .inl p2, .inl p3, .inl p4] M (wIM (f_X5_copy p1 p2 p3 p4 M)) := by
  refine Zc.of (by decide) zi_X5_copy.1 (Nat.le_of_ble_eq_true rfl) rfl ?_
  show Zg _ _ _ _ _ _ (zlet (f_X5_copy p1 p2 p3 p4 M) wIM) _ _ _ _
  unfold f_X5_copy
  refine zg_iload_n (x := p1) dX5_copy_0 rfl ?_
  refine zg_iconst (v := (-1)) dX5_copy_1 rfl ?_
  refine zg_icmpz (tgt := 13) dX5_copy_2 rfl rfl (fun c2 => ?_) (fun c2 => ?_)
  · refine zg_st (pc' := 13) (L' := [some (.inr 0), some (.inl p1), some (.inl p2), some (.inl p3), some (.inl p4)]) (S' := []) (M' := M) rfl rfl rfl rfl ?_
    refine zg_iconst (v := 0) dX5_copy_13 rfl ?_
    exact zg_iret dX5_copy_14 rfl rfl ⟨by decide, by decide⟩ rfl
  · refine zg_st (pc' := 5) (L' := [some (.inr 0), some (.inl p1), some (.inl p2), some (.inl p3), some (.inl p4)]) (S' := []) (M' := M) rfl rfl rfl rfl ?_
    refine zg_iload_n (x := p1) dX5_copy_5 rfl ?_
    refine zg_bipush (v := 40) dX5_copy_6 rfl ?_
    refine zg_idiv dX5_copy_8 (by decide) ?_
    refine zg_iload_n (x := p3) dX5_copy_9 rfl ?_
    refine zg_icmpz (tgt := 15) dX5_copy_10 rfl rfl (fun c10 => ?_) (fun c10 => ?_)
    · refine zg_st (pc' := 15) (L' := [some (.inr 0), some (.inl p1), some (.inl p2), some (.inl p3), some (.inl p4)]) (S' := []) (M' := M) rfl rfl rfl rfl ?_
      refine zg_aload_n (x := 0) dX5_copy_15 rfl ?_
      refine zg_getf (v := .inr 9) dX5_copy_16 zf_X5_39 rfl rfl rfl ?_
      refine zg_iconst (v := 2) dX5_copy_19 rfl ?_
      refine zg_iload_n (x := p1) dX5_copy_20 rfl ?_
      refine zg_imul dX5_copy_21 ?_
      refine zg_iload (x := p4) dX5_copy_22 rfl ?_
      refine zg_iadd dX5_copy_24 ?_
      refine zg_aload_n (x := 0) dX5_copy_25 rfl ?_
      refine zg_getf (v := .inr 9) dX5_copy_26 zf_X5_39 rfl rfl rfl ?_
      refine zg_iconst (v := 2) dX5_copy_29 rfl ?_
      refine zg_iload_n (x := p1) dX5_copy_30 rfl ?_
      refine zg_imul dX5_copy_31 ?_
      refine zg_iconst (v := 1) dX5_copy_32 rfl ?_
      refine zg_iadd dX5_copy_33 ?_
      refine zg_iload (x := p4) dX5_copy_34 rfl ?_
      refine zg_isub dX5_copy_36 ?_
      refine zg_zald dX5_copy_37 rfl (z_cp1 hp.1 c2 hp.2.2) ?_
      refine zg_ifz (tgt := 63) dX5_copy_38 rfl rfl (fun c38 => ?_) (fun c38 => ?_)
      · refine zg_st (pc' := 63) (L' := [some (.inr 0), some (.inl p1), some (.inl p2), some (.inl p3), some (.inl p4)]) (S' := [.inl ((2 * p1) + p4), .inr 9]) (M' := M) rfl rfl rfl rfl ?_
        refine zg_iconst (v := 0) dX5_copy_63 rfl ?_
        refine zg_zast (v := 0) dX5_copy_64 rfl (z_g2 ⟨hp.1, hp.2.2⟩ c2) rfl ?_
        refine zg_iconst (v := 1) dX5_copy_65 rfl ?_
        exact zg_iret dX5_copy_66 rfl rfl ⟨by decide, by decide⟩ rfl
      · refine zg_st (pc' := 41) (L' := [some (.inr 0), some (.inl p1), some (.inl p2), some (.inl p3), some (.inl p4)]) (S' := [.inl ((2 * p1) + p4), .inr 9]) (M' := M) rfl rfl rfl rfl ?_
        refine zg_aload_n (x := 0) dX5_copy_41 rfl ?_
        refine zg_iload_n (x := p2) dX5_copy_42 rfl ?_
        refine zg_iconst (v := 0) dX5_copy_43 rfl ?_
        refine zg_cV1 (As := [.inl p2, .inl 0]) (S := [.inl ((2 * p1) + p4), .inr 9]) (v := bI ((f_X5_isGood p2 0 M))) dX5_copy_44 zk_X5_82 (k_X5_isGood q p2 0 M ⟨hp.2.1, by decide⟩) rfl rfl ⟨by decide, by decide⟩ ⟨by decide, by decide⟩ rfl (Nat.le_of_ble_eq_true rfl) ?_
        refine zg_st (pc' := 47) (L' := [some (.inr 0), some (.inl p1), some (.inl p2), some (.inl p3), some (.inl p4)]) (S' := [.inl (bI ((f_X5_isGood p2 0 M))), .inl ((2 * p1) + p4), .inr 9]) (M' := M) rfl rfl rfl rfl ?_
        refine zg_ifbn (tgt := 63) dX5_copy_47 rfl (fun c47 => ?_) (fun c47 => ?_)
        · refine zg_st (pc' := 63) (L' := [some (.inr 0), some (.inl p1), some (.inl p2), some (.inl p3), some (.inl p4)]) (S' := [.inl ((2 * p1) + p4), .inr 9]) (M' := M) rfl rfl rfl rfl ?_
          refine zg_iconst (v := 0) dX5_copy_63 rfl ?_
          refine zg_zast (v := 0) dX5_copy_64 rfl (z_g2 ⟨hp.1, hp.2.2⟩ c2) rfl ?_
          refine zg_iconst (v := 1) dX5_copy_65 rfl ?_
          exact zg_iret dX5_copy_66 rfl rfl ⟨by decide, by decide⟩ rfl
        · refine zg_st (pc' := 50) (L' := [some (.inr 0), some (.inl p1), some (.inl p2), some (.inl p3), some (.inl p4)]) (S' := [.inl ((2 * p1) + p4), .inr 9]) (M' := M) rfl rfl rfl rfl ?_
          refine zg_aload_n (x := 0) dX5_copy_50 rfl ?_
          refine zg_iload_n (x := p2) dX5_copy_51 rfl ?_
          refine zg_iconst (v := 1) dX5_copy_52 rfl ?_
          refine zg_cV1 (As := [.inl p2, .inl 1]) (S := [.inl ((2 * p1) + p4), .inr 9]) (v := bI ((f_X5_isGood p2 1 M))) dX5_copy_53 zk_X5_82 (k_X5_isGood q p2 1 M ⟨hp.2.1, by decide⟩) rfl rfl ⟨by decide, by decide⟩ ⟨by decide, by decide⟩ rfl (Nat.le_of_ble_eq_true rfl) ?_
          refine zg_st (pc' := 56) (L' := [some (.inr 0), some (.inl p1), some (.inl p2), some (.inl p3), some (.inl p4)]) (S' := [.inl (bI ((f_X5_isGood p2 1 M))), .inl ((2 * p1) + p4), .inr 9]) (M' := M) rfl rfl rfl rfl ?_
          refine zg_ifbn (tgt := 63) dX5_copy_56 rfl (fun c56 => ?_) (fun c56 => ?_)
          · refine zg_st (pc' := 63) (L' := [some (.inr 0), some (.inl p1), some (.inl p2), some (.inl p3), some (.inl p4)]) (S' := [.inl ((2 * p1) + p4), .inr 9]) (M' := M) rfl rfl rfl rfl ?_
            refine zg_iconst (v := 0) dX5_copy_63 rfl ?_
            refine zg_zast (v := 0) dX5_copy_64 rfl (z_g2 ⟨hp.1, hp.2.2⟩ c2) rfl ?_
            refine zg_iconst (v := 1) dX5_copy_65 rfl ?_
            exact zg_iret dX5_copy_66 rfl rfl ⟨by decide, by decide⟩ rfl
          · refine zg_st (pc' := 59) (L' := [some (.inr 0), some (.inl p1), some (.inl p2), some (.inl p3), some (.inl p4)]) (S' := [.inl ((2 * p1) + p4), .inr 9]) (M' := M) rfl rfl rfl rfl ?_
            refine zg_iconst (v := 1) dX5_copy_59 rfl ?_
            refine zg_goto (tgt := 64) dX5_copy_60 rfl ?_
            refine zg_st (pc' := 64) (L' := [some (.inr 0), some (.inl p1), some (.inl p2), some (.inl p3), some (.inl p4)]) (S' := [.inl 1, .inl ((2 * p1) + p4), .inr 9]) (M' := M) rfl rfl rfl rfl ?_
            refine zg_zast (v := 1) dX5_copy_64 rfl (z_g2 ⟨hp.1, hp.2.2⟩ c2) rfl ?_
            refine zg_iconst (v := 1) dX5_copy_65 rfl ?_
            exact zg_iret dX5_copy_66 rfl rfl ⟨by decide, by decide⟩ rfl
    · refine zg_st (pc' := 13) (L' := [some (.inr 0), some (.inl p1), some (.inl p2), some (.inl p3), some (.inl p4)]) (S' := []) (M' := M) rfl rfl rfl rfl ?_
      refine zg_iconst (v := 0) dX5_copy_13 rfl ?_
      exact zg_iret dX5_copy_14 rfl rfl ⟨by decide, by decide⟩ rfl
theorem dX5_spoil_0 : decode cX5_spoil 0 = .ok (.iload_n 1, 1) := by decide +kernel
theorem dX5_spoil_1 : decode cX5_spoil 1 = .ok (.iload_n 2, 1) := by decide +kernel
theorem dX5_spoil_2 : decode cX5_spoil 2 = .ok (.invokestatic 152, 3) := by decide +kernel
theorem dX5_spoil_5 : decode cX5_spoil 5 = .ok (.ifCond .eq 15, 3) := by decide +kernel
theorem dX5_spoil_8 : decode cX5_spoil 8 = .ok (.iload_n 1, 1) := by decide +kernel
theorem dX5_spoil_9 : decode cX5_spoil 9 = .ok (.iload_n 3, 1) := by decide +kernel
theorem dX5_spoil_10 : decode cX5_spoil 10 = .ok (.invokestatic 166, 3) := by decide +kernel
theorem dX5_spoil_13 : decode cX5_spoil 13 = .ok (.ifCond .eq 7, 3) := by decide +kernel
theorem dX5_spoil_16 : decode cX5_spoil 16 = .ok (.iconst 1, 1) := by decide +kernel
theorem dX5_spoil_17 : decode cX5_spoil 17 = .ok (.goto 4, 3) := by decide +kernel
theorem dX5_spoil_20 : decode cX5_spoil 20 = .ok (.iconst 0, 1) := by decide +kernel
theorem dX5_spoil_21 : decode cX5_spoil 21 = .ok (.istore 4, 2) := by decide +kernel
theorem dX5_spoil_23 : decode cX5_spoil 23 = .ok (.aload_n 0, 1) := by decide +kernel
theorem dX5_spoil_24 : decode cX5_spoil 24 = .ok (.iload 4, 2) := by decide +kernel
theorem dX5_spoil_26 : decode cX5_spoil 26 = .ok (.ifCond .ne 7, 3) := by decide +kernel
theorem dX5_spoil_29 : decode cX5_spoil 29 = .ok (.iconst 1, 1) := by decide +kernel
theorem dX5_spoil_30 : decode cX5_spoil 30 = .ok (.goto 35, 3) := by decide +kernel
theorem dX5_spoil_33 : decode cX5_spoil 33 = .ok (.aload_n 0, 1) := by decide +kernel
theorem dX5_spoil_34 : decode cX5_spoil 34 = .ok (.getfield 42, 3) := by decide +kernel
theorem dX5_spoil_37 : decode cX5_spoil 37 = .ok (.iconst 2, 1) := by decide +kernel
theorem dX5_spoil_38 : decode cX5_spoil 38 = .ok (.iload_n 1, 1) := by decide +kernel
theorem dX5_spoil_39 : decode cX5_spoil 39 = .ok (.imul, 1) := by decide +kernel
theorem dX5_spoil_40 : decode cX5_spoil 40 = .ok (.iload_n 2, 1) := by decide +kernel
theorem dX5_spoil_41 : decode cX5_spoil 41 = .ok (.iadd, 1) := by decide +kernel
theorem dX5_spoil_42 : decode cX5_spoil 42 = .ok (.baload, 1) := by decide +kernel
theorem dX5_spoil_43 : decode cX5_spoil 43 = .ok (.ifCond .ne 17, 3) := by decide +kernel
theorem dX5_spoil_46 : decode cX5_spoil 46 = .ok (.aload_n 0, 1) := by decide +kernel
theorem dX5_spoil_47 : decode cX5_spoil 47 = .ok (.getfield 35, 3) := by decide +kernel
theorem dX5_spoil_50 : decode cX5_spoil 50 = .ok (.bipush 40, 2) := by decide +kernel
theorem dX5_spoil_52 : decode cX5_spoil 52 = .ok (.iload_n 1, 1) := by decide +kernel
theorem dX5_spoil_53 : decode cX5_spoil 53 = .ok (.imul, 1) := by decide +kernel
theorem dX5_spoil_54 : decode cX5_spoil 54 = .ok (.iload_n 3, 1) := by decide +kernel
theorem dX5_spoil_55 : decode cX5_spoil 55 = .ok (.iadd, 1) := by decide +kernel
theorem dX5_spoil_56 : decode cX5_spoil 56 = .ok (.baload, 1) := by decide +kernel
theorem dX5_spoil_57 : decode cX5_spoil 57 = .ok (.ifCond .ne 7, 3) := by decide +kernel
theorem dX5_spoil_60 : decode cX5_spoil 60 = .ok (.iconst 2, 1) := by decide +kernel
theorem dX5_spoil_61 : decode cX5_spoil 61 = .ok (.goto 4, 3) := by decide +kernel
theorem dX5_spoil_64 : decode cX5_spoil 64 = .ok (.iconst 0, 1) := by decide +kernel
theorem dX5_spoil_65 : decode cX5_spoil 65 = .ok (.invokevirtual 74, 3) := by decide +kernel
theorem dX5_spoil_68 : decode cX5_spoil 68 = .ok (.ifCond .eq 5, 3) := by decide +kernel
theorem dX5_spoil_71 : decode cX5_spoil 71 = .ok (.iconst 0, 1) := by decide +kernel
theorem dX5_spoil_72 : decode cX5_spoil 72 = .ok (.ireturn, 1) := by decide +kernel
theorem dX5_spoil_73 : decode cX5_spoil 73 = .ok (.iconst 2, 1) := by decide +kernel
theorem dX5_spoil_74 : decode cX5_spoil 74 = .ok (.bipush 40, 2) := by decide +kernel
theorem dX5_spoil_76 : decode cX5_spoil 76 = .ok (.iload_n 1, 1) := by decide +kernel
theorem dX5_spoil_77 : decode cX5_spoil 77 = .ok (.imul, 1) := by decide +kernel
theorem dX5_spoil_78 : decode cX5_spoil 78 = .ok (.iload_n 3, 1) := by decide +kernel
theorem dX5_spoil_79 : decode cX5_spoil 79 = .ok (.iadd, 1) := by decide +kernel
theorem dX5_spoil_80 : decode cX5_spoil 80 = .ok (.imul, 1) := by decide +kernel
theorem dX5_spoil_81 : decode cX5_spoil 81 = .ok (.iload_n 2, 1) := by decide +kernel
theorem dX5_spoil_82 : decode cX5_spoil 82 = .ok (.iadd, 1) := by decide +kernel
theorem dX5_spoil_83 : decode cX5_spoil 83 = .ok (.istore 5, 2) := by decide +kernel
theorem dX5_spoil_85 : decode cX5_spoil 85 = .ok (.aload_n 0, 1) := by decide +kernel
theorem dX5_spoil_86 : decode cX5_spoil 86 = .ok (.getfield 39, 3) := by decide +kernel
theorem dX5_spoil_89 : decode cX5_spoil 89 = .ok (.iload 5, 2) := by decide +kernel
theorem dX5_spoil_91 : decode cX5_spoil 91 = .ok (.baload, 1) := by decide +kernel
theorem dX5_spoil_92 : decode cX5_spoil 92 = .ok (.istore 6, 2) := by decide +kernel
theorem dX5_spoil_94 : decode cX5_spoil 94 = .ok (.aload_n 0, 1) := by decide +kernel
theorem dX5_spoil_95 : decode cX5_spoil 95 = .ok (.getfield 39, 3) := by decide +kernel
theorem dX5_spoil_98 : decode cX5_spoil 98 = .ok (.iload 5, 2) := by decide +kernel
theorem dX5_spoil_100 : decode cX5_spoil 100 = .ok (.iconst 1, 1) := by decide +kernel
theorem dX5_spoil_101 : decode cX5_spoil 101 = .ok (.bastore, 1) := by decide +kernel
theorem dX5_spoil_102 : decode cX5_spoil 102 = .ok (.iload 6, 2) := by decide +kernel
theorem dX5_spoil_104 : decode cX5_spoil 104 = .ok (.ifCond .ne 7, 3) := by decide +kernel
theorem dX5_spoil_107 : decode cX5_spoil 107 = .ok (.iconst 1, 1) := by decide +kernel
theorem dX5_spoil_108 : decode cX5_spoil 108 = .ok (.goto 4, 3) := by decide +kernel
theorem dX5_spoil_111 : decode cX5_spoil 111 = .ok (.iconst 0, 1) := by decide +kernel
theorem dX5_spoil_112 : decode cX5_spoil 112 = .ok (.ireturn, 1) := by decide +kernel
def f_X5_spoil (p1 : Int32) (p2 : Int32) (p3 : Int32) (M : Mem) : (Bool × Mem) :=
  if (f_X5_isSide p1 p2) then if (f_X5_isCell p1 p3) then if ¬ (M 10 ((2 * p1) + p2).toNatClampNeg) = 0 then (false, (mup M 0 0 2))
      else if ¬ (M 8 ((40 * p1) + p3).toNatClampNeg) = 0 then if ¬ ((mup M 0 0 0) 9 ((2 * ((40 * p1) + p3)) + p2).toNatClampNeg) = 0 then (false, (mup (mup M 0 0 0) 9 ((2 * ((40 * p1) + p3)) + p2).toNatClampNeg 1))
        else (true, (mup (mup M 0 0 0) 9 ((2 * ((40 * p1) + p3)) + p2).toNatClampNeg 1))
      else (false, (mup M 0 0 2))
    else (false, (mup M 0 0 1))
  else (false, (mup M 0 0 1))
set_option maxRecDepth 100000 in
set_option maxHeartbeats 4000000 in
theorem k_X5_spoil (q : ZQ) (p1 : Int32) (p2 : Int32) (p3 : Int32) (M : Mem) : Zc (zgM q) mX5_spoil 0 0 [.inr 0, .inl p1, .inl p2, .inl p3] M (wBM (f_X5_spoil p1 p2 p3 M)) := by
  refine Zc.of (by decide) zi_X5_spoil.1 (Nat.le_of_ble_eq_true rfl) rfl ?_
  show Zg _ _ _ _ _ _ (zlet (f_X5_spoil p1 p2 p3 M) wBM) _ _ _ _
  unfold f_X5_spoil
  refine zg_iload_n (x := p1) dX5_spoil_0 rfl ?_
  refine zg_iload_n (x := p2) dX5_spoil_1 rfl ?_
  refine zg_cS1 (As := [.inl p1, .inl p2]) (S := []) (v := bI ((f_X5_isSide p1 p2))) dX5_spoil_2 zk_X5_152 (k_X5_isSide q p1 p2 M) rfl ⟨by decide, by decide⟩ ⟨by decide, by decide⟩ rfl (Nat.le_of_ble_eq_true rfl) ?_
  refine zg_st (pc' := 5) (L' := [some (.inr 0), some (.inl p1), some (.inl p2), some (.inl p3), none, none, none]) (S' := [.inl (bI ((f_X5_isSide p1 p2)))]) (M' := M) rfl rfl rfl rfl ?_
  refine zg_ifbe (tgt := 20) dX5_spoil_5 rfl (fun c5 => ?_) (fun c5 => ?_)
  · refine zg_st (pc' := 8) (L' := [some (.inr 0), some (.inl p1), some (.inl p2), some (.inl p3), none, none, none]) (S' := []) (M' := M) rfl rfl rfl rfl ?_
    refine zg_iload_n (x := p1) dX5_spoil_8 rfl ?_
    refine zg_iload_n (x := p3) dX5_spoil_9 rfl ?_
    refine zg_cS1 (As := [.inl p1, .inl p3]) (S := []) (v := bI ((f_X5_isCell p1 p3))) dX5_spoil_10 zk_X5_166 (k_X5_isCell q p1 p3 M) rfl ⟨by decide, by decide⟩ ⟨by decide, by decide⟩ rfl (Nat.le_of_ble_eq_true rfl) ?_
    refine zg_st (pc' := 13) (L' := [some (.inr 0), some (.inl p1), some (.inl p2), some (.inl p3), none, none, none]) (S' := [.inl (bI ((f_X5_isCell p1 p3)))]) (M' := M) rfl rfl rfl rfl ?_
    refine zg_ifbe (tgt := 20) dX5_spoil_13 rfl (fun c13 => ?_) (fun c13 => ?_)
    · refine zg_st (pc' := 16) (L' := [some (.inr 0), some (.inl p1), some (.inl p2), some (.inl p3), none, none, none]) (S' := []) (M' := M) rfl rfl rfl rfl ?_
      refine zg_iconst (v := 1) dX5_spoil_16 rfl ?_
      refine zg_goto (tgt := 21) dX5_spoil_17 rfl ?_
      refine zg_st (pc' := 21) (L' := [some (.inr 0), some (.inl p1), some (.inl p2), some (.inl p3), none, none, none]) (S' := [.inl 1]) (M' := M) rfl rfl rfl rfl ?_
      refine zg_istore dX5_spoil_21 (by decide) ?_
      refine zg_st (pc' := 23) (L' := [some (.inr 0), some (.inl p1), some (.inl p2), some (.inl p3), some (.inl 1), none, none]) (S' := []) (M' := M) rfl rfl rfl rfl ?_
      refine zg_aload_n (x := 0) dX5_spoil_23 rfl ?_
      refine zg_iload (x := 1) dX5_spoil_24 rfl ?_
      refine zg_jt (tgt := 33) dX5_spoil_26 rfl (show ¬ (1 : Int32) = 0 from by decide) ?_
      refine zg_st (pc' := 33) (L' := [some (.inr 0), some (.inl p1), some (.inl p2), some (.inl p3), some (.inl 1), none, none]) (S' := [.inr 0]) (M' := M) rfl rfl rfl rfl ?_
      refine zg_aload_n (x := 0) dX5_spoil_33 rfl ?_
      refine zg_getf (v := .inr 10) dX5_spoil_34 zf_X5_42 rfl rfl rfl ?_
      refine zg_iconst (v := 2) dX5_spoil_37 rfl ?_
      refine zg_iload_n (x := p1) dX5_spoil_38 rfl ?_
      refine zg_imul dX5_spoil_39 ?_
      refine zg_iload_n (x := p2) dX5_spoil_40 rfl ?_
      refine zg_iadd dX5_spoil_41 ?_
      refine zg_zald dX5_spoil_42 rfl (by first | exact z_s6 c5 | exact z_c120 c13 | exact z_c240 c13 c5) ?_
      refine zg_ifz (tgt := 60) dX5_spoil_43 rfl rfl (fun c43 => ?_) (fun c43 => ?_)
      · refine zg_st (pc' := 60) (L' := [some (.inr 0), some (.inl p1), some (.inl p2), some (.inl p3), some (.inl 1), none, none]) (S' := [.inr 0]) (M' := M) rfl rfl rfl rfl ?_
        refine zg_iconst (v := 2) dX5_spoil_60 rfl ?_
        refine zg_goto (tgt := 65) dX5_spoil_61 rfl ?_
        refine zg_st (pc' := 65) (L' := [some (.inr 0), some (.inl p1), some (.inl p2), some (.inl p3), some (.inl 1), none, none]) (S' := [.inl 2, .inr 0]) (M' := M) rfl rfl rfl rfl ?_
        refine zg_cV1 (As := [.inl 2]) (S := []) (v := 1) (N0 := (mup M 0 0 2)) dX5_spoil_65 zk_X5_74 (k_X5_refused q 2 M) rfl rfl ⟨by decide, by decide⟩ ⟨by decide, by decide⟩ rfl (Nat.le_of_ble_eq_true rfl) ?_
        refine zg_st (pc' := 68) (L' := [some (.inr 0), some (.inl p1), some (.inl p2), some (.inl p3), some (.inl 1), none, none]) (S' := [.inl 1]) (M' := (mup M 0 0 2)) rfl rfl rfl rfl ?_
        refine zg_jf (tgt := 73) dX5_spoil_68 rfl (show ¬ ((1 : Int32) = 0) from by decide) ?_
        refine zg_st (pc' := 71) (L' := [some (.inr 0), some (.inl p1), some (.inl p2), some (.inl p3), some (.inl 1), none, none]) (S' := []) (M' := (mup M 0 0 2)) rfl rfl rfl rfl ?_
        refine zg_iconst (v := 0) dX5_spoil_71 rfl ?_
        exact zg_iret dX5_spoil_72 rfl rfl ⟨by decide, by decide⟩ rfl
      · refine zg_st (pc' := 46) (L' := [some (.inr 0), some (.inl p1), some (.inl p2), some (.inl p3), some (.inl 1), none, none]) (S' := [.inr 0]) (M' := M) rfl rfl rfl rfl ?_
        refine zg_aload_n (x := 0) dX5_spoil_46 rfl ?_
        refine zg_getf (v := .inr 8) dX5_spoil_47 zf_X5_35 rfl rfl rfl ?_
        refine zg_bipush (v := 40) dX5_spoil_50 rfl ?_
        refine zg_iload_n (x := p1) dX5_spoil_52 rfl ?_
        refine zg_imul dX5_spoil_53 ?_
        refine zg_iload_n (x := p3) dX5_spoil_54 rfl ?_
        refine zg_iadd dX5_spoil_55 ?_
        refine zg_zald dX5_spoil_56 rfl (by first | exact z_s6 c5 | exact z_c120 c13 | exact z_c240 c13 c5) ?_
        refine zg_ifz (tgt := 64) dX5_spoil_57 rfl rfl (fun c57 => ?_) (fun c57 => ?_)
        · refine zg_st (pc' := 64) (L' := [some (.inr 0), some (.inl p1), some (.inl p2), some (.inl p3), some (.inl 1), none, none]) (S' := [.inr 0]) (M' := M) rfl rfl rfl rfl ?_
          refine zg_iconst (v := 0) dX5_spoil_64 rfl ?_
          refine zg_cV1 (As := [.inl 0]) (S := []) (v := 0) (N0 := (mup M 0 0 0)) dX5_spoil_65 zk_X5_74 (k_X5_refused q 0 M) rfl rfl ⟨by decide, by decide⟩ ⟨by decide, by decide⟩ rfl (Nat.le_of_ble_eq_true rfl) ?_
          refine zg_st (pc' := 68) (L' := [some (.inr 0), some (.inl p1), some (.inl p2), some (.inl p3), some (.inl 1), none, none]) (S' := [.inl 0]) (M' := (mup M 0 0 0)) rfl rfl rfl rfl ?_
          refine zg_jt (tgt := 73) dX5_spoil_68 rfl (show (0 : Int32) = 0 from by decide) ?_
          refine zg_st (pc' := 73) (L' := [some (.inr 0), some (.inl p1), some (.inl p2), some (.inl p3), some (.inl 1), none, none]) (S' := []) (M' := (mup M 0 0 0)) rfl rfl rfl rfl ?_
          refine zg_iconst (v := 2) dX5_spoil_73 rfl ?_
          refine zg_bipush (v := 40) dX5_spoil_74 rfl ?_
          refine zg_iload_n (x := p1) dX5_spoil_76 rfl ?_
          refine zg_imul dX5_spoil_77 ?_
          refine zg_iload_n (x := p3) dX5_spoil_78 rfl ?_
          refine zg_iadd dX5_spoil_79 ?_
          refine zg_imul dX5_spoil_80 ?_
          refine zg_iload_n (x := p2) dX5_spoil_81 rfl ?_
          refine zg_iadd dX5_spoil_82 ?_
          refine zg_istore dX5_spoil_83 (by decide) ?_
          refine zg_st (pc' := 85) (L' := [some (.inr 0), some (.inl p1), some (.inl p2), some (.inl p3), some (.inl 1), some (.inl ((2 * ((40 * p1) + p3)) + p2)), none]) (S' := []) (M' := (mup M 0 0 0)) rfl rfl rfl rfl ?_
          refine zg_aload_n (x := 0) dX5_spoil_85 rfl ?_
          refine zg_getf (v := .inr 9) dX5_spoil_86 zf_X5_39 rfl rfl rfl ?_
          refine zg_iload (x := ((2 * ((40 * p1) + p3)) + p2)) dX5_spoil_89 rfl ?_
          refine zg_zald dX5_spoil_91 rfl (by first | exact z_s6 c5 | exact z_c120 c13 | exact z_c240 c13 c5) ?_
          refine zg_istore dX5_spoil_92 (by decide) ?_
          refine zg_st (pc' := 94) (L' := [some (.inr 0), some (.inl p1), some (.inl p2), some (.inl p3), some (.inl 1), some (.inl ((2 * ((40 * p1) + p3)) + p2)), some (.inl ((mup M 0 0 0) 9 ((2 * ((40 * p1) + p3)) + p2).toNatClampNeg))]) (S' := []) (M' := (mup M 0 0 0)) rfl rfl rfl rfl ?_
          refine zg_aload_n (x := 0) dX5_spoil_94 rfl ?_
          refine zg_getf (v := .inr 9) dX5_spoil_95 zf_X5_39 rfl rfl rfl ?_
          refine zg_iload (x := ((2 * ((40 * p1) + p3)) + p2)) dX5_spoil_98 rfl ?_
          refine zg_iconst (v := 1) dX5_spoil_100 rfl ?_
          refine zg_zast (v := 1) dX5_spoil_101 rfl (by first | exact z_s6 c5 | exact z_c120 c13 | exact z_c240 c13 c5) rfl ?_
          refine zg_iload (x := ((mup M 0 0 0) 9 ((2 * ((40 * p1) + p3)) + p2).toNatClampNeg)) dX5_spoil_102 rfl ?_
          refine zg_ifz (tgt := 111) dX5_spoil_104 rfl rfl (fun c104 => ?_) (fun c104 => ?_)
          · refine zg_st (pc' := 111) (L' := [some (.inr 0), some (.inl p1), some (.inl p2), some (.inl p3), some (.inl 1), some (.inl ((2 * ((40 * p1) + p3)) + p2)), some (.inl ((mup M 0 0 0) 9 ((2 * ((40 * p1) + p3)) + p2).toNatClampNeg))]) (S' := []) (M' := (mup (mup M 0 0 0) 9 ((2 * ((40 * p1) + p3)) + p2).toNatClampNeg 1)) rfl rfl rfl rfl ?_
            refine zg_iconst (v := 0) dX5_spoil_111 rfl ?_
            exact zg_iret dX5_spoil_112 rfl rfl ⟨by decide, by decide⟩ rfl
          · refine zg_st (pc' := 107) (L' := [some (.inr 0), some (.inl p1), some (.inl p2), some (.inl p3), some (.inl 1), some (.inl ((2 * ((40 * p1) + p3)) + p2)), some (.inl ((mup M 0 0 0) 9 ((2 * ((40 * p1) + p3)) + p2).toNatClampNeg))]) (S' := []) (M' := (mup (mup M 0 0 0) 9 ((2 * ((40 * p1) + p3)) + p2).toNatClampNeg 1)) rfl rfl rfl rfl ?_
            refine zg_iconst (v := 1) dX5_spoil_107 rfl ?_
            refine zg_goto (tgt := 112) dX5_spoil_108 rfl ?_
            refine zg_st (pc' := 112) (L' := [some (.inr 0), some (.inl p1), some (.inl p2), some (.inl p3), some (.inl 1), some (.inl ((2 * ((40 * p1) + p3)) + p2)), some (.inl ((mup M 0 0 0) 9 ((2 * ((40 * p1) + p3)) + p2).toNatClampNeg))]) (S' := [.inl 1]) (M' := (mup (mup M 0 0 0) 9 ((2 * ((40 * p1) + p3)) + p2).toNatClampNeg 1)) rfl rfl rfl rfl ?_
            exact zg_iret dX5_spoil_112 rfl rfl ⟨by decide, by decide⟩ rfl
        · refine zg_st (pc' := 60) (L' := [some (.inr 0), some (.inl p1), some (.inl p2), some (.inl p3), some (.inl 1), none, none]) (S' := [.inr 0]) (M' := M) rfl rfl rfl rfl ?_
          refine zg_iconst (v := 2) dX5_spoil_60 rfl ?_
          refine zg_goto (tgt := 65) dX5_spoil_61 rfl ?_
          refine zg_st (pc' := 65) (L' := [some (.inr 0), some (.inl p1), some (.inl p2), some (.inl p3), some (.inl 1), none, none]) (S' := [.inl 2, .inr 0]) (M' := M) rfl rfl rfl rfl ?_
          refine zg_cV1 (As := [.inl 2]) (S := []) (v := 1) (N0 := (mup M 0 0 2)) dX5_spoil_65 zk_X5_74 (k_X5_refused q 2 M) rfl rfl ⟨by decide, by decide⟩ ⟨by decide, by decide⟩ rfl (Nat.le_of_ble_eq_true rfl) ?_
          refine zg_st (pc' := 68) (L' := [some (.inr 0), some (.inl p1), some (.inl p2), some (.inl p3), some (.inl 1), none, none]) (S' := [.inl 1]) (M' := (mup M 0 0 2)) rfl rfl rfl rfl ?_
          refine zg_jf (tgt := 73) dX5_spoil_68 rfl (show ¬ ((1 : Int32) = 0) from by decide) ?_
          refine zg_st (pc' := 71) (L' := [some (.inr 0), some (.inl p1), some (.inl p2), some (.inl p3), some (.inl 1), none, none]) (S' := []) (M' := (mup M 0 0 2)) rfl rfl rfl rfl ?_
          refine zg_iconst (v := 0) dX5_spoil_71 rfl ?_
          exact zg_iret dX5_spoil_72 rfl rfl ⟨by decide, by decide⟩ rfl
    · refine zg_st (pc' := 20) (L' := [some (.inr 0), some (.inl p1), some (.inl p2), some (.inl p3), none, none, none]) (S' := []) (M' := M) rfl rfl rfl rfl ?_
      refine zg_iconst (v := 0) dX5_spoil_20 rfl ?_
      refine zg_istore dX5_spoil_21 (by decide) ?_
      refine zg_st (pc' := 23) (L' := [some (.inr 0), some (.inl p1), some (.inl p2), some (.inl p3), some (.inl 0), none, none]) (S' := []) (M' := M) rfl rfl rfl rfl ?_
      refine zg_aload_n (x := 0) dX5_spoil_23 rfl ?_
      refine zg_iload (x := 0) dX5_spoil_24 rfl ?_
      refine zg_jf (tgt := 33) dX5_spoil_26 rfl (show ¬ (¬ (0 : Int32) = 0) from by decide) ?_
      refine zg_st (pc' := 29) (L' := [some (.inr 0), some (.inl p1), some (.inl p2), some (.inl p3), some (.inl 0), none, none]) (S' := [.inr 0]) (M' := M) rfl rfl rfl rfl ?_
      refine zg_iconst (v := 1) dX5_spoil_29 rfl ?_
      refine zg_goto (tgt := 65) dX5_spoil_30 rfl ?_
      refine zg_st (pc' := 65) (L' := [some (.inr 0), some (.inl p1), some (.inl p2), some (.inl p3), some (.inl 0), none, none]) (S' := [.inl 1, .inr 0]) (M' := M) rfl rfl rfl rfl ?_
      refine zg_cV1 (As := [.inl 1]) (S := []) (v := 1) (N0 := (mup M 0 0 1)) dX5_spoil_65 zk_X5_74 (k_X5_refused q 1 M) rfl rfl ⟨by decide, by decide⟩ ⟨by decide, by decide⟩ rfl (Nat.le_of_ble_eq_true rfl) ?_
      refine zg_st (pc' := 68) (L' := [some (.inr 0), some (.inl p1), some (.inl p2), some (.inl p3), some (.inl 0), none, none]) (S' := [.inl 1]) (M' := (mup M 0 0 1)) rfl rfl rfl rfl ?_
      refine zg_jf (tgt := 73) dX5_spoil_68 rfl (show ¬ ((1 : Int32) = 0) from by decide) ?_
      refine zg_st (pc' := 71) (L' := [some (.inr 0), some (.inl p1), some (.inl p2), some (.inl p3), some (.inl 0), none, none]) (S' := []) (M' := (mup M 0 0 1)) rfl rfl rfl rfl ?_
      refine zg_iconst (v := 0) dX5_spoil_71 rfl ?_
      exact zg_iret dX5_spoil_72 rfl rfl ⟨by decide, by decide⟩ rfl
  · refine zg_st (pc' := 20) (L' := [some (.inr 0), some (.inl p1), some (.inl p2), some (.inl p3), none, none, none]) (S' := []) (M' := M) rfl rfl rfl rfl ?_
    refine zg_iconst (v := 0) dX5_spoil_20 rfl ?_
    refine zg_istore dX5_spoil_21 (by decide) ?_
    refine zg_st (pc' := 23) (L' := [some (.inr 0), some (.inl p1), some (.inl p2), some (.inl p3), some (.inl 0), none, none]) (S' := []) (M' := M) rfl rfl rfl rfl ?_
    refine zg_aload_n (x := 0) dX5_spoil_23 rfl ?_
    refine zg_iload (x := 0) dX5_spoil_24 rfl ?_
    refine zg_jf (tgt := 33) dX5_spoil_26 rfl (show ¬ (¬ (0 : Int32) = 0) from by decide) ?_
    refine zg_st (pc' := 29) (L' := [some (.inr 0), some (.inl p1), some (.inl p2), some (.inl p3), some (.inl 0), none, none]) (S' := [.inr 0]) (M' := M) rfl rfl rfl rfl ?_
    refine zg_iconst (v := 1) dX5_spoil_29 rfl ?_
    refine zg_goto (tgt := 65) dX5_spoil_30 rfl ?_
    refine zg_st (pc' := 65) (L' := [some (.inr 0), some (.inl p1), some (.inl p2), some (.inl p3), some (.inl 0), none, none]) (S' := [.inl 1, .inr 0]) (M' := M) rfl rfl rfl rfl ?_
    refine zg_cV1 (As := [.inl 1]) (S := []) (v := 1) (N0 := (mup M 0 0 1)) dX5_spoil_65 zk_X5_74 (k_X5_refused q 1 M) rfl rfl ⟨by decide, by decide⟩ ⟨by decide, by decide⟩ rfl (Nat.le_of_ble_eq_true rfl) ?_
    refine zg_st (pc' := 68) (L' := [some (.inr 0), some (.inl p1), some (.inl p2), some (.inl p3), some (.inl 0), none, none]) (S' := [.inl 1]) (M' := (mup M 0 0 1)) rfl rfl rfl rfl ?_
    refine zg_jf (tgt := 73) dX5_spoil_68 rfl (show ¬ ((1 : Int32) = 0) from by decide) ?_
    refine zg_st (pc' := 71) (L' := [some (.inr 0), some (.inl p1), some (.inl p2), some (.inl p3), some (.inl 0), none, none]) (S' := []) (M' := (mup M 0 0 1)) rfl rfl rfl rfl ?_
    refine zg_iconst (v := 0) dX5_spoil_71 rfl ?_
    exact zg_iret dX5_spoil_72 rfl rfl ⟨by decide, by decide⟩ rfl
theorem dX5_isSpoilt_0 : decode cX5_isSpoilt 0 = .ok (.iload_n 1, 1) := by decide +kernel
theorem dX5_isSpoilt_1 : decode cX5_isSpoilt 1 = .ok (.iload_n 2, 1) := by decide +kernel
theorem dX5_isSpoilt_2 : decode cX5_isSpoilt 2 = .ok (.invokestatic 152, 3) := by decide +kernel
theorem dX5_isSpoilt_5 : decode cX5_isSpoilt 5 = .ok (.ifCond .eq 15, 3) := by decide +kernel
theorem dX5_isSpoilt_8 : decode cX5_isSpoilt 8 = .ok (.iload_n 1, 1) := by decide +kernel
theorem dX5_isSpoilt_9 : decode cX5_isSpoilt 9 = .ok (.iload_n 3, 1) := by decide +kernel
theorem dX5_isSpoilt_10 : decode cX5_isSpoilt 10 = .ok (.invokestatic 166, 3) := by decide +kernel
theorem dX5_isSpoilt_13 : decode cX5_isSpoilt 13 = .ok (.ifCond .eq 7, 3) := by decide +kernel
theorem dX5_isSpoilt_16 : decode cX5_isSpoilt 16 = .ok (.iconst 1, 1) := by decide +kernel
theorem dX5_isSpoilt_17 : decode cX5_isSpoilt 17 = .ok (.goto 4, 3) := by decide +kernel
theorem dX5_isSpoilt_20 : decode cX5_isSpoilt 20 = .ok (.iconst 0, 1) := by decide +kernel
theorem dX5_isSpoilt_21 : decode cX5_isSpoilt 21 = .ok (.istore 4, 2) := by decide +kernel
theorem dX5_isSpoilt_23 : decode cX5_isSpoilt 23 = .ok (.aload_n 0, 1) := by decide +kernel
theorem dX5_isSpoilt_24 : decode cX5_isSpoilt 24 = .ok (.iload 4, 2) := by decide +kernel
theorem dX5_isSpoilt_26 : decode cX5_isSpoilt 26 = .ok (.ifCond .ne 7, 3) := by decide +kernel
theorem dX5_isSpoilt_29 : decode cX5_isSpoilt 29 = .ok (.iconst 1, 1) := by decide +kernel
theorem dX5_isSpoilt_30 : decode cX5_isSpoilt 30 = .ok (.goto 21, 3) := by decide +kernel
theorem dX5_isSpoilt_33 : decode cX5_isSpoilt 33 = .ok (.aload_n 0, 1) := by decide +kernel
theorem dX5_isSpoilt_34 : decode cX5_isSpoilt 34 = .ok (.getfield 42, 3) := by decide +kernel
theorem dX5_isSpoilt_37 : decode cX5_isSpoilt 37 = .ok (.iconst 2, 1) := by decide +kernel
theorem dX5_isSpoilt_38 : decode cX5_isSpoilt 38 = .ok (.iload_n 1, 1) := by decide +kernel
theorem dX5_isSpoilt_39 : decode cX5_isSpoilt 39 = .ok (.imul, 1) := by decide +kernel
theorem dX5_isSpoilt_40 : decode cX5_isSpoilt 40 = .ok (.iload_n 2, 1) := by decide +kernel
theorem dX5_isSpoilt_41 : decode cX5_isSpoilt 41 = .ok (.iadd, 1) := by decide +kernel
theorem dX5_isSpoilt_42 : decode cX5_isSpoilt 42 = .ok (.baload, 1) := by decide +kernel
theorem dX5_isSpoilt_43 : decode cX5_isSpoilt 43 = .ok (.ifCond .eq 7, 3) := by decide +kernel
theorem dX5_isSpoilt_46 : decode cX5_isSpoilt 46 = .ok (.iconst 2, 1) := by decide +kernel
theorem dX5_isSpoilt_47 : decode cX5_isSpoilt 47 = .ok (.goto 4, 3) := by decide +kernel
theorem dX5_isSpoilt_50 : decode cX5_isSpoilt 50 = .ok (.iconst 0, 1) := by decide +kernel
theorem dX5_isSpoilt_51 : decode cX5_isSpoilt 51 = .ok (.invokevirtual 74, 3) := by decide +kernel
theorem dX5_isSpoilt_54 : decode cX5_isSpoilt 54 = .ok (.ifCond .ne 39, 3) := by decide +kernel
theorem dX5_isSpoilt_57 : decode cX5_isSpoilt 57 = .ok (.aload_n 0, 1) := by decide +kernel
theorem dX5_isSpoilt_58 : decode cX5_isSpoilt 58 = .ok (.getfield 35, 3) := by decide +kernel
theorem dX5_isSpoilt_61 : decode cX5_isSpoilt 61 = .ok (.bipush 40, 2) := by decide +kernel
theorem dX5_isSpoilt_63 : decode cX5_isSpoilt 63 = .ok (.iload_n 1, 1) := by decide +kernel
theorem dX5_isSpoilt_64 : decode cX5_isSpoilt 64 = .ok (.imul, 1) := by decide +kernel
theorem dX5_isSpoilt_65 : decode cX5_isSpoilt 65 = .ok (.iload_n 3, 1) := by decide +kernel
theorem dX5_isSpoilt_66 : decode cX5_isSpoilt 66 = .ok (.iadd, 1) := by decide +kernel
theorem dX5_isSpoilt_67 : decode cX5_isSpoilt 67 = .ok (.baload, 1) := by decide +kernel
theorem dX5_isSpoilt_68 : decode cX5_isSpoilt 68 = .ok (.ifCond .eq 25, 3) := by decide +kernel
theorem dX5_isSpoilt_71 : decode cX5_isSpoilt 71 = .ok (.aload_n 0, 1) := by decide +kernel
theorem dX5_isSpoilt_72 : decode cX5_isSpoilt 72 = .ok (.getfield 39, 3) := by decide +kernel
theorem dX5_isSpoilt_75 : decode cX5_isSpoilt 75 = .ok (.iconst 2, 1) := by decide +kernel
theorem dX5_isSpoilt_76 : decode cX5_isSpoilt 76 = .ok (.bipush 40, 2) := by decide +kernel
theorem dX5_isSpoilt_78 : decode cX5_isSpoilt 78 = .ok (.iload_n 1, 1) := by decide +kernel
theorem dX5_isSpoilt_79 : decode cX5_isSpoilt 79 = .ok (.imul, 1) := by decide +kernel
theorem dX5_isSpoilt_80 : decode cX5_isSpoilt 80 = .ok (.iload_n 3, 1) := by decide +kernel
theorem dX5_isSpoilt_81 : decode cX5_isSpoilt 81 = .ok (.iadd, 1) := by decide +kernel
theorem dX5_isSpoilt_82 : decode cX5_isSpoilt 82 = .ok (.imul, 1) := by decide +kernel
theorem dX5_isSpoilt_83 : decode cX5_isSpoilt 83 = .ok (.iload_n 2, 1) := by decide +kernel
theorem dX5_isSpoilt_84 : decode cX5_isSpoilt 84 = .ok (.iadd, 1) := by decide +kernel
theorem dX5_isSpoilt_85 : decode cX5_isSpoilt 85 = .ok (.baload, 1) := by decide +kernel
theorem dX5_isSpoilt_86 : decode cX5_isSpoilt 86 = .ok (.ifCond .eq 7, 3) := by decide +kernel
theorem dX5_isSpoilt_89 : decode cX5_isSpoilt 89 = .ok (.iconst 1, 1) := by decide +kernel
theorem dX5_isSpoilt_90 : decode cX5_isSpoilt 90 = .ok (.goto 4, 3) := by decide +kernel
theorem dX5_isSpoilt_93 : decode cX5_isSpoilt 93 = .ok (.iconst 0, 1) := by decide +kernel
theorem dX5_isSpoilt_94 : decode cX5_isSpoilt 94 = .ok (.ireturn, 1) := by decide +kernel
def f_X5_isSpoilt (p1 : Int32) (p2 : Int32) (p3 : Int32) (M : Mem) : (Bool × Mem) :=
  if (f_X5_isSide p1 p2) then if (f_X5_isCell p1 p3) then if (M 10 ((2 * p1) + p2).toNatClampNeg) = 0 then if ((mup M 0 0 0) 8 ((40 * p1) + p3).toNatClampNeg) = 0 then (false, (mup M 0 0 0))
        else if ((mup M 0 0 0) 9 ((2 * ((40 * p1) + p3)) + p2).toNatClampNeg) = 0 then (false, (mup M 0 0 0))
        else (true, (mup M 0 0 0))
      else (false, (mup M 0 0 2))
    else (false, (mup M 0 0 1))
  else (false, (mup M 0 0 1))
set_option maxRecDepth 100000 in
set_option maxHeartbeats 4000000 in
theorem k_X5_isSpoilt (q : ZQ) (p1 : Int32) (p2 : Int32) (p3 : Int32) (M : Mem) : Zc (zgM q) mX5_isSpoilt 0 0 [.inr 0, .inl p1, .inl p2, .inl p3] M (wBM (f_X5_isSpoilt p1 p2 p3 M)) := by
  refine Zc.of (by decide) zi_X5_isSpoilt.1 (Nat.le_of_ble_eq_true rfl) rfl ?_
  show Zg _ _ _ _ _ _ (zlet (f_X5_isSpoilt p1 p2 p3 M) wBM) _ _ _ _
  unfold f_X5_isSpoilt
  refine zg_iload_n (x := p1) dX5_isSpoilt_0 rfl ?_
  refine zg_iload_n (x := p2) dX5_isSpoilt_1 rfl ?_
  refine zg_cS1 (As := [.inl p1, .inl p2]) (S := []) (v := bI ((f_X5_isSide p1 p2))) dX5_isSpoilt_2 zk_X5_152 (k_X5_isSide q p1 p2 M) rfl ⟨by decide, by decide⟩ ⟨by decide, by decide⟩ rfl (Nat.le_of_ble_eq_true rfl) ?_
  refine zg_st (pc' := 5) (L' := [some (.inr 0), some (.inl p1), some (.inl p2), some (.inl p3), none]) (S' := [.inl (bI ((f_X5_isSide p1 p2)))]) (M' := M) rfl rfl rfl rfl ?_
  refine zg_ifbe (tgt := 20) dX5_isSpoilt_5 rfl (fun c5 => ?_) (fun c5 => ?_)
  · refine zg_st (pc' := 8) (L' := [some (.inr 0), some (.inl p1), some (.inl p2), some (.inl p3), none]) (S' := []) (M' := M) rfl rfl rfl rfl ?_
    refine zg_iload_n (x := p1) dX5_isSpoilt_8 rfl ?_
    refine zg_iload_n (x := p3) dX5_isSpoilt_9 rfl ?_
    refine zg_cS1 (As := [.inl p1, .inl p3]) (S := []) (v := bI ((f_X5_isCell p1 p3))) dX5_isSpoilt_10 zk_X5_166 (k_X5_isCell q p1 p3 M) rfl ⟨by decide, by decide⟩ ⟨by decide, by decide⟩ rfl (Nat.le_of_ble_eq_true rfl) ?_
    refine zg_st (pc' := 13) (L' := [some (.inr 0), some (.inl p1), some (.inl p2), some (.inl p3), none]) (S' := [.inl (bI ((f_X5_isCell p1 p3)))]) (M' := M) rfl rfl rfl rfl ?_
    refine zg_ifbe (tgt := 20) dX5_isSpoilt_13 rfl (fun c13 => ?_) (fun c13 => ?_)
    · refine zg_st (pc' := 16) (L' := [some (.inr 0), some (.inl p1), some (.inl p2), some (.inl p3), none]) (S' := []) (M' := M) rfl rfl rfl rfl ?_
      refine zg_iconst (v := 1) dX5_isSpoilt_16 rfl ?_
      refine zg_goto (tgt := 21) dX5_isSpoilt_17 rfl ?_
      refine zg_st (pc' := 21) (L' := [some (.inr 0), some (.inl p1), some (.inl p2), some (.inl p3), none]) (S' := [.inl 1]) (M' := M) rfl rfl rfl rfl ?_
      refine zg_istore dX5_isSpoilt_21 (by decide) ?_
      refine zg_st (pc' := 23) (L' := [some (.inr 0), some (.inl p1), some (.inl p2), some (.inl p3), some (.inl 1)]) (S' := []) (M' := M) rfl rfl rfl rfl ?_
      refine zg_aload_n (x := 0) dX5_isSpoilt_23 rfl ?_
      refine zg_iload (x := 1) dX5_isSpoilt_24 rfl ?_
      refine zg_jt (tgt := 33) dX5_isSpoilt_26 rfl (show ¬ (1 : Int32) = 0 from by decide) ?_
      refine zg_st (pc' := 33) (L' := [some (.inr 0), some (.inl p1), some (.inl p2), some (.inl p3), some (.inl 1)]) (S' := [.inr 0]) (M' := M) rfl rfl rfl rfl ?_
      refine zg_aload_n (x := 0) dX5_isSpoilt_33 rfl ?_
      refine zg_getf (v := .inr 10) dX5_isSpoilt_34 zf_X5_42 rfl rfl rfl ?_
      refine zg_iconst (v := 2) dX5_isSpoilt_37 rfl ?_
      refine zg_iload_n (x := p1) dX5_isSpoilt_38 rfl ?_
      refine zg_imul dX5_isSpoilt_39 ?_
      refine zg_iload_n (x := p2) dX5_isSpoilt_40 rfl ?_
      refine zg_iadd dX5_isSpoilt_41 ?_
      refine zg_zald dX5_isSpoilt_42 rfl (by first | exact z_s6 c5 | exact z_c120 c13 | exact z_c240 c13 c5) ?_
      refine zg_ifz (tgt := 50) dX5_isSpoilt_43 rfl rfl (fun c43 => ?_) (fun c43 => ?_)
      · refine zg_st (pc' := 50) (L' := [some (.inr 0), some (.inl p1), some (.inl p2), some (.inl p3), some (.inl 1)]) (S' := [.inr 0]) (M' := M) rfl rfl rfl rfl ?_
        refine zg_iconst (v := 0) dX5_isSpoilt_50 rfl ?_
        refine zg_cV1 (As := [.inl 0]) (S := []) (v := 0) (N0 := (mup M 0 0 0)) dX5_isSpoilt_51 zk_X5_74 (k_X5_refused q 0 M) rfl rfl ⟨by decide, by decide⟩ ⟨by decide, by decide⟩ rfl (Nat.le_of_ble_eq_true rfl) ?_
        refine zg_st (pc' := 54) (L' := [some (.inr 0), some (.inl p1), some (.inl p2), some (.inl p3), some (.inl 1)]) (S' := [.inl 0]) (M' := (mup M 0 0 0)) rfl rfl rfl rfl ?_
        refine zg_jf (tgt := 93) dX5_isSpoilt_54 rfl (show ¬ (¬ (0 : Int32) = 0) from by decide) ?_
        refine zg_st (pc' := 57) (L' := [some (.inr 0), some (.inl p1), some (.inl p2), some (.inl p3), some (.inl 1)]) (S' := []) (M' := (mup M 0 0 0)) rfl rfl rfl rfl ?_
        refine zg_aload_n (x := 0) dX5_isSpoilt_57 rfl ?_
        refine zg_getf (v := .inr 8) dX5_isSpoilt_58 zf_X5_35 rfl rfl rfl ?_
        refine zg_bipush (v := 40) dX5_isSpoilt_61 rfl ?_
        refine zg_iload_n (x := p1) dX5_isSpoilt_63 rfl ?_
        refine zg_imul dX5_isSpoilt_64 ?_
        refine zg_iload_n (x := p3) dX5_isSpoilt_65 rfl ?_
        refine zg_iadd dX5_isSpoilt_66 ?_
        refine zg_zald dX5_isSpoilt_67 rfl (by first | exact z_s6 c5 | exact z_c120 c13 | exact z_c240 c13 c5) ?_
        refine zg_ifz (tgt := 93) dX5_isSpoilt_68 rfl rfl (fun c68 => ?_) (fun c68 => ?_)
        · refine zg_st (pc' := 93) (L' := [some (.inr 0), some (.inl p1), some (.inl p2), some (.inl p3), some (.inl 1)]) (S' := []) (M' := (mup M 0 0 0)) rfl rfl rfl rfl ?_
          refine zg_iconst (v := 0) dX5_isSpoilt_93 rfl ?_
          exact zg_iret dX5_isSpoilt_94 rfl rfl ⟨by decide, by decide⟩ rfl
        · refine zg_st (pc' := 71) (L' := [some (.inr 0), some (.inl p1), some (.inl p2), some (.inl p3), some (.inl 1)]) (S' := []) (M' := (mup M 0 0 0)) rfl rfl rfl rfl ?_
          refine zg_aload_n (x := 0) dX5_isSpoilt_71 rfl ?_
          refine zg_getf (v := .inr 9) dX5_isSpoilt_72 zf_X5_39 rfl rfl rfl ?_
          refine zg_iconst (v := 2) dX5_isSpoilt_75 rfl ?_
          refine zg_bipush (v := 40) dX5_isSpoilt_76 rfl ?_
          refine zg_iload_n (x := p1) dX5_isSpoilt_78 rfl ?_
          refine zg_imul dX5_isSpoilt_79 ?_
          refine zg_iload_n (x := p3) dX5_isSpoilt_80 rfl ?_
          refine zg_iadd dX5_isSpoilt_81 ?_
          refine zg_imul dX5_isSpoilt_82 ?_
          refine zg_iload_n (x := p2) dX5_isSpoilt_83 rfl ?_
          refine zg_iadd dX5_isSpoilt_84 ?_
          refine zg_zald dX5_isSpoilt_85 rfl (by first | exact z_s6 c5 | exact z_c120 c13 | exact z_c240 c13 c5) ?_
          refine zg_ifz (tgt := 93) dX5_isSpoilt_86 rfl rfl (fun c86 => ?_) (fun c86 => ?_)
          · refine zg_st (pc' := 93) (L' := [some (.inr 0), some (.inl p1), some (.inl p2), some (.inl p3), some (.inl 1)]) (S' := []) (M' := (mup M 0 0 0)) rfl rfl rfl rfl ?_
            refine zg_iconst (v := 0) dX5_isSpoilt_93 rfl ?_
            exact zg_iret dX5_isSpoilt_94 rfl rfl ⟨by decide, by decide⟩ rfl
          · refine zg_st (pc' := 89) (L' := [some (.inr 0), some (.inl p1), some (.inl p2), some (.inl p3), some (.inl 1)]) (S' := []) (M' := (mup M 0 0 0)) rfl rfl rfl rfl ?_
            refine zg_iconst (v := 1) dX5_isSpoilt_89 rfl ?_
            refine zg_goto (tgt := 94) dX5_isSpoilt_90 rfl ?_
            refine zg_st (pc' := 94) (L' := [some (.inr 0), some (.inl p1), some (.inl p2), some (.inl p3), some (.inl 1)]) (S' := [.inl 1]) (M' := (mup M 0 0 0)) rfl rfl rfl rfl ?_
            exact zg_iret dX5_isSpoilt_94 rfl rfl ⟨by decide, by decide⟩ rfl
      · refine zg_st (pc' := 46) (L' := [some (.inr 0), some (.inl p1), some (.inl p2), some (.inl p3), some (.inl 1)]) (S' := [.inr 0]) (M' := M) rfl rfl rfl rfl ?_
        refine zg_iconst (v := 2) dX5_isSpoilt_46 rfl ?_
        refine zg_goto (tgt := 51) dX5_isSpoilt_47 rfl ?_
        refine zg_st (pc' := 51) (L' := [some (.inr 0), some (.inl p1), some (.inl p2), some (.inl p3), some (.inl 1)]) (S' := [.inl 2, .inr 0]) (M' := M) rfl rfl rfl rfl ?_
        refine zg_cV1 (As := [.inl 2]) (S := []) (v := 1) (N0 := (mup M 0 0 2)) dX5_isSpoilt_51 zk_X5_74 (k_X5_refused q 2 M) rfl rfl ⟨by decide, by decide⟩ ⟨by decide, by decide⟩ rfl (Nat.le_of_ble_eq_true rfl) ?_
        refine zg_st (pc' := 54) (L' := [some (.inr 0), some (.inl p1), some (.inl p2), some (.inl p3), some (.inl 1)]) (S' := [.inl 1]) (M' := (mup M 0 0 2)) rfl rfl rfl rfl ?_
        refine zg_jt (tgt := 93) dX5_isSpoilt_54 rfl (show ¬ (1 : Int32) = 0 from by decide) ?_
        refine zg_st (pc' := 93) (L' := [some (.inr 0), some (.inl p1), some (.inl p2), some (.inl p3), some (.inl 1)]) (S' := []) (M' := (mup M 0 0 2)) rfl rfl rfl rfl ?_
        refine zg_iconst (v := 0) dX5_isSpoilt_93 rfl ?_
        exact zg_iret dX5_isSpoilt_94 rfl rfl ⟨by decide, by decide⟩ rfl
    · refine zg_st (pc' := 20) (L' := [some (.inr 0), some (.inl p1), some (.inl p2), some (.inl p3), none]) (S' := []) (M' := M) rfl rfl rfl rfl ?_
      refine zg_iconst (v := 0) dX5_isSpoilt_20 rfl ?_
      refine zg_istore dX5_isSpoilt_21 (by decide) ?_
      refine zg_st (pc' := 23) (L' := [some (.inr 0), some (.inl p1), some (.inl p2), some (.inl p3), some (.inl 0)]) (S' := []) (M' := M) rfl rfl rfl rfl ?_
      refine zg_aload_n (x := 0) dX5_isSpoilt_23 rfl ?_
      refine zg_iload (x := 0) dX5_isSpoilt_24 rfl ?_
      refine zg_jf (tgt := 33) dX5_isSpoilt_26 rfl (show ¬ (¬ (0 : Int32) = 0) from by decide) ?_
      refine zg_st (pc' := 29) (L' := [some (.inr 0), some (.inl p1), some (.inl p2), some (.inl p3), some (.inl 0)]) (S' := [.inr 0]) (M' := M) rfl rfl rfl rfl ?_
      refine zg_iconst (v := 1) dX5_isSpoilt_29 rfl ?_
      refine zg_goto (tgt := 51) dX5_isSpoilt_30 rfl ?_
      refine zg_st (pc' := 51) (L' := [some (.inr 0), some (.inl p1), some (.inl p2), some (.inl p3), some (.inl 0)]) (S' := [.inl 1, .inr 0]) (M' := M) rfl rfl rfl rfl ?_
      refine zg_cV1 (As := [.inl 1]) (S := []) (v := 1) (N0 := (mup M 0 0 1)) dX5_isSpoilt_51 zk_X5_74 (k_X5_refused q 1 M) rfl rfl ⟨by decide, by decide⟩ ⟨by decide, by decide⟩ rfl (Nat.le_of_ble_eq_true rfl) ?_
      refine zg_st (pc' := 54) (L' := [some (.inr 0), some (.inl p1), some (.inl p2), some (.inl p3), some (.inl 0)]) (S' := [.inl 1]) (M' := (mup M 0 0 1)) rfl rfl rfl rfl ?_
      refine zg_jt (tgt := 93) dX5_isSpoilt_54 rfl (show ¬ (1 : Int32) = 0 from by decide) ?_
      refine zg_st (pc' := 93) (L' := [some (.inr 0), some (.inl p1), some (.inl p2), some (.inl p3), some (.inl 0)]) (S' := []) (M' := (mup M 0 0 1)) rfl rfl rfl rfl ?_
      refine zg_iconst (v := 0) dX5_isSpoilt_93 rfl ?_
      exact zg_iret dX5_isSpoilt_94 rfl rfl ⟨by decide, by decide⟩ rfl
  · refine zg_st (pc' := 20) (L' := [some (.inr 0), some (.inl p1), some (.inl p2), some (.inl p3), none]) (S' := []) (M' := M) rfl rfl rfl rfl ?_
    refine zg_iconst (v := 0) dX5_isSpoilt_20 rfl ?_
    refine zg_istore dX5_isSpoilt_21 (by decide) ?_
    refine zg_st (pc' := 23) (L' := [some (.inr 0), some (.inl p1), some (.inl p2), some (.inl p3), some (.inl 0)]) (S' := []) (M' := M) rfl rfl rfl rfl ?_
    refine zg_aload_n (x := 0) dX5_isSpoilt_23 rfl ?_
    refine zg_iload (x := 0) dX5_isSpoilt_24 rfl ?_
    refine zg_jf (tgt := 33) dX5_isSpoilt_26 rfl (show ¬ (¬ (0 : Int32) = 0) from by decide) ?_
    refine zg_st (pc' := 29) (L' := [some (.inr 0), some (.inl p1), some (.inl p2), some (.inl p3), some (.inl 0)]) (S' := [.inr 0]) (M' := M) rfl rfl rfl rfl ?_
    refine zg_iconst (v := 1) dX5_isSpoilt_29 rfl ?_
    refine zg_goto (tgt := 51) dX5_isSpoilt_30 rfl ?_
    refine zg_st (pc' := 51) (L' := [some (.inr 0), some (.inl p1), some (.inl p2), some (.inl p3), some (.inl 0)]) (S' := [.inl 1, .inr 0]) (M' := M) rfl rfl rfl rfl ?_
    refine zg_cV1 (As := [.inl 1]) (S := []) (v := 1) (N0 := (mup M 0 0 1)) dX5_isSpoilt_51 zk_X5_74 (k_X5_refused q 1 M) rfl rfl ⟨by decide, by decide⟩ ⟨by decide, by decide⟩ rfl (Nat.le_of_ble_eq_true rfl) ?_
    refine zg_st (pc' := 54) (L' := [some (.inr 0), some (.inl p1), some (.inl p2), some (.inl p3), some (.inl 0)]) (S' := [.inl 1]) (M' := (mup M 0 0 1)) rfl rfl rfl rfl ?_
    refine zg_jt (tgt := 93) dX5_isSpoilt_54 rfl (show ¬ (1 : Int32) = 0 from by decide) ?_
    refine zg_st (pc' := 93) (L' := [some (.inr 0), some (.inl p1), some (.inl p2), some (.inl p3), some (.inl 0)]) (S' := []) (M' := (mup M 0 0 1)) rfl rfl rfl rfl ?_
    refine zg_iconst (v := 0) dX5_isSpoilt_93 rfl ?_
    exact zg_iret dX5_isSpoilt_94 rfl rfl ⟨by decide, by decide⟩ rfl
theorem dX5_isFree_0 : decode cX5_isFree 0 = .ok (.aload_n 0, 1) := by decide +kernel
theorem dX5_isFree_1 : decode cX5_isFree 1 = .ok (.iload_n 1, 1) := by decide +kernel
theorem dX5_isFree_2 : decode cX5_isFree 2 = .ok (.iload_n 2, 1) := by decide +kernel
theorem dX5_isFree_3 : decode cX5_isFree 3 = .ok (.invokestatic 166, 3) := by decide +kernel
theorem dX5_isFree_6 : decode cX5_isFree 6 = .ok (.ifCond .eq 7, 3) := by decide +kernel
theorem dX5_isFree_9 : decode cX5_isFree 9 = .ok (.iconst 0, 1) := by decide +kernel
theorem dX5_isFree_10 : decode cX5_isFree 10 = .ok (.goto 4, 3) := by decide +kernel
theorem dX5_isFree_13 : decode cX5_isFree 13 = .ok (.iconst 1, 1) := by decide +kernel
theorem dX5_isFree_14 : decode cX5_isFree 14 = .ok (.invokevirtual 74, 3) := by decide +kernel
theorem dX5_isFree_17 : decode cX5_isFree 17 = .ok (.ifCond .ne 21, 3) := by decide +kernel
theorem dX5_isFree_20 : decode cX5_isFree 20 = .ok (.aload_n 0, 1) := by decide +kernel
theorem dX5_isFree_21 : decode cX5_isFree 21 = .ok (.getfield 35, 3) := by decide +kernel
theorem dX5_isFree_24 : decode cX5_isFree 24 = .ok (.bipush 40, 2) := by decide +kernel
theorem dX5_isFree_26 : decode cX5_isFree 26 = .ok (.iload_n 1, 1) := by decide +kernel
theorem dX5_isFree_27 : decode cX5_isFree 27 = .ok (.imul, 1) := by decide +kernel
theorem dX5_isFree_28 : decode cX5_isFree 28 = .ok (.iload_n 2, 1) := by decide +kernel
theorem dX5_isFree_29 : decode cX5_isFree 29 = .ok (.iadd, 1) := by decide +kernel
theorem dX5_isFree_30 : decode cX5_isFree 30 = .ok (.baload, 1) := by decide +kernel
theorem dX5_isFree_31 : decode cX5_isFree 31 = .ok (.ifCond .ne 7, 3) := by decide +kernel
theorem dX5_isFree_34 : decode cX5_isFree 34 = .ok (.iconst 1, 1) := by decide +kernel
theorem dX5_isFree_35 : decode cX5_isFree 35 = .ok (.goto 4, 3) := by decide +kernel
theorem dX5_isFree_38 : decode cX5_isFree 38 = .ok (.iconst 0, 1) := by decide +kernel
theorem dX5_isFree_39 : decode cX5_isFree 39 = .ok (.ireturn, 1) := by decide +kernel
def f_X5_isFree (p1 : Int32) (p2 : Int32) (M : Mem) : (Bool × Mem) :=
  if (f_X5_isCell p1 p2) then if ¬ ((mup M 0 0 0) 8 ((40 * p1) + p2).toNatClampNeg) = 0 then (false, (mup M 0 0 0))
    else (true, (mup M 0 0 0))
  else (false, (mup M 0 0 1))
set_option maxRecDepth 100000 in
set_option maxHeartbeats 4000000 in
theorem k_X5_isFree (q : ZQ) (p1 : Int32) (p2 : Int32) (M : Mem) : Zc (zgM q) mX5_isFree 0 0 [.inr 0, .inl p1, .inl p2] M (wBM (f_X5_isFree p1 p2 M)) := by
  refine Zc.of (by decide) zi_X5_isFree.1 (Nat.le_of_ble_eq_true rfl) rfl ?_
  show Zg _ _ _ _ _ _ (zlet (f_X5_isFree p1 p2 M) wBM) _ _ _ _
  unfold f_X5_isFree
  refine zg_aload_n (x := 0) dX5_isFree_0 rfl ?_
  refine zg_iload_n (x := p1) dX5_isFree_1 rfl ?_
  refine zg_iload_n (x := p2) dX5_isFree_2 rfl ?_
  refine zg_cS1 (As := [.inl p1, .inl p2]) (S := [.inr 0]) (v := bI ((f_X5_isCell p1 p2))) dX5_isFree_3 zk_X5_166 (k_X5_isCell q p1 p2 M) rfl ⟨by decide, by decide⟩ ⟨by decide, by decide⟩ rfl (Nat.le_of_ble_eq_true rfl) ?_
  refine zg_st (pc' := 6) (L' := [some (.inr 0), some (.inl p1), some (.inl p2)]) (S' := [.inl (bI ((f_X5_isCell p1 p2))), .inr 0]) (M' := M) rfl rfl rfl rfl ?_
  refine zg_ifbe (tgt := 13) dX5_isFree_6 rfl (fun c6 => ?_) (fun c6 => ?_)
  · refine zg_st (pc' := 9) (L' := [some (.inr 0), some (.inl p1), some (.inl p2)]) (S' := [.inr 0]) (M' := M) rfl rfl rfl rfl ?_
    refine zg_iconst (v := 0) dX5_isFree_9 rfl ?_
    refine zg_goto (tgt := 14) dX5_isFree_10 rfl ?_
    refine zg_st (pc' := 14) (L' := [some (.inr 0), some (.inl p1), some (.inl p2)]) (S' := [.inl 0, .inr 0]) (M' := M) rfl rfl rfl rfl ?_
    refine zg_cV1 (As := [.inl 0]) (S := []) (v := 0) (N0 := (mup M 0 0 0)) dX5_isFree_14 zk_X5_74 (k_X5_refused q 0 M) rfl rfl ⟨by decide, by decide⟩ ⟨by decide, by decide⟩ rfl (Nat.le_of_ble_eq_true rfl) ?_
    refine zg_st (pc' := 17) (L' := [some (.inr 0), some (.inl p1), some (.inl p2)]) (S' := [.inl 0]) (M' := (mup M 0 0 0)) rfl rfl rfl rfl ?_
    refine zg_jf (tgt := 38) dX5_isFree_17 rfl (show ¬ (¬ (0 : Int32) = 0) from by decide) ?_
    refine zg_st (pc' := 20) (L' := [some (.inr 0), some (.inl p1), some (.inl p2)]) (S' := []) (M' := (mup M 0 0 0)) rfl rfl rfl rfl ?_
    refine zg_aload_n (x := 0) dX5_isFree_20 rfl ?_
    refine zg_getf (v := .inr 8) dX5_isFree_21 zf_X5_35 rfl rfl rfl ?_
    refine zg_bipush (v := 40) dX5_isFree_24 rfl ?_
    refine zg_iload_n (x := p1) dX5_isFree_26 rfl ?_
    refine zg_imul dX5_isFree_27 ?_
    refine zg_iload_n (x := p2) dX5_isFree_28 rfl ?_
    refine zg_iadd dX5_isFree_29 ?_
    refine zg_zald dX5_isFree_30 rfl (z_c120 c6) ?_
    refine zg_ifz (tgt := 38) dX5_isFree_31 rfl rfl (fun c31 => ?_) (fun c31 => ?_)
    · refine zg_st (pc' := 38) (L' := [some (.inr 0), some (.inl p1), some (.inl p2)]) (S' := []) (M' := (mup M 0 0 0)) rfl rfl rfl rfl ?_
      refine zg_iconst (v := 0) dX5_isFree_38 rfl ?_
      exact zg_iret dX5_isFree_39 rfl rfl ⟨by decide, by decide⟩ rfl
    · refine zg_st (pc' := 34) (L' := [some (.inr 0), some (.inl p1), some (.inl p2)]) (S' := []) (M' := (mup M 0 0 0)) rfl rfl rfl rfl ?_
      refine zg_iconst (v := 1) dX5_isFree_34 rfl ?_
      refine zg_goto (tgt := 39) dX5_isFree_35 rfl ?_
      refine zg_st (pc' := 39) (L' := [some (.inr 0), some (.inl p1), some (.inl p2)]) (S' := [.inl 1]) (M' := (mup M 0 0 0)) rfl rfl rfl rfl ?_
      exact zg_iret dX5_isFree_39 rfl rfl ⟨by decide, by decide⟩ rfl
  · refine zg_st (pc' := 13) (L' := [some (.inr 0), some (.inl p1), some (.inl p2)]) (S' := [.inr 0]) (M' := M) rfl rfl rfl rfl ?_
    refine zg_iconst (v := 1) dX5_isFree_13 rfl ?_
    refine zg_cV1 (As := [.inl 1]) (S := []) (v := 1) (N0 := (mup M 0 0 1)) dX5_isFree_14 zk_X5_74 (k_X5_refused q 1 M) rfl rfl ⟨by decide, by decide⟩ ⟨by decide, by decide⟩ rfl (Nat.le_of_ble_eq_true rfl) ?_
    refine zg_st (pc' := 17) (L' := [some (.inr 0), some (.inl p1), some (.inl p2)]) (S' := [.inl 1]) (M' := (mup M 0 0 1)) rfl rfl rfl rfl ?_
    refine zg_jt (tgt := 38) dX5_isFree_17 rfl (show ¬ (1 : Int32) = 0 from by decide) ?_
    refine zg_st (pc' := 38) (L' := [some (.inr 0), some (.inl p1), some (.inl p2)]) (S' := []) (M' := (mup M 0 0 1)) rfl rfl rfl rfl ?_
    refine zg_iconst (v := 0) dX5_isFree_38 rfl ?_
    exact zg_iret dX5_isFree_39 rfl rfl ⟨by decide, by decide⟩ rfl
def b_X5_countFree_8_8 (x1 : Int32) (M : Mem) (rec : Int32 → Int32 → Int32 × Int32) (v3 : Int32) (v4 : Int32) : Int32 × Int32 :=
  if ((40 * x1) + 40) ≤ v4 then (v3, v4)
  else if (M 8 v4.toNatClampNeg) = 0 then rec (v3 + 1) (v4 + 1)
  else rec (v3 + 0) (v4 + 1)
def l_X5_countFree_8_8 (x1 : Int32) (M : Mem) : Nat → Int32 → Int32 → Int32 × Int32
  | 0, v3, v4 => (v3, v4)
  | n + 1, v3, v4 => b_X5_countFree_8_8 x1 M (l_X5_countFree_8_8 x1 M n) v3 v4
set_option maxRecDepth 100000 in
set_option maxHeartbeats 4000000 in
theorem kl_X5_countFree_8_8 (q : ZQ) (x1 : Int32) (M : Mem) (hx1 : 0 ≤ x1.toInt ∧ x1.toInt < 3) {K : Int32 × Int32 → ZR} (hx : ∀ e : Int32 × Int32, (0 : Int) ≤ e.2.toInt → Zg (zgM q) mX5_countFree 0 0 0 0 (K e) 41 [some (.inr 0), some (.inl x1), some (.inr 8), some (.inl e.1), some (.inl e.2)] [] M) :
    ∀ (n : Nat) (v3 : Int32) (v4 : Int32), (0 : Int) ≤ v4.toInt → ((((40 * x1) + 40) : Int32).toInt - (v4 : Int32).toInt).toNat < n → Zg (zgM q) mX5_countFree 0 0 0 0 (zlet (l_X5_countFree_8_8 x1 M n v3 v4) K) 8 [some (.inr 0), some (.inl x1), some (.inr 8), some (.inl v3), some (.inl v4)] [] M := by
  intro n
  induction n with
  | zero => intro v3 v4 hI hm; exact absurd hm (Nat.not_lt_zero _)
  | succ n ih =>
    intro v3 v4 hI hm
    show Zg _ _ _ _ _ _ (zlet (b_X5_countFree_8_8 x1 M (l_X5_countFree_8_8 x1 M n) v3 v4) K) _ _ _ _
    unfold b_X5_countFree_8_8
    refine zg_iload (x := v4) dX5_countFree_8 rfl ?_
    refine zg_bipush (v := 40) dX5_countFree_10 rfl ?_
    refine zg_iload_n (x := x1) dX5_countFree_12 rfl ?_
    refine zg_imul dX5_countFree_13 ?_
    refine zg_bipush (v := 40) dX5_countFree_14 rfl ?_
    refine zg_iadd dX5_countFree_16 ?_
    refine zg_icmpz (tgt := 41) dX5_countFree_17 rfl rfl (fun c17 => ?_) (fun c17 => ?_)
    · refine zg_st (pc' := 41) (L' := [some (.inr 0), some (.inl x1), some (.inr 8), some (.inl v3), some (.inl v4)]) (S' := []) (M' := M) rfl rfl rfl rfl ?_
      refine zg_drop (L' := [some (.inr 0), some (.inl x1), some (.inr 8), some (.inl v3), some (.inl v4)]) ⟨rfl, rfl, rfl, rfl, rfl, trivial⟩ ?_
      exact hx (v3, v4) hI
    · refine zg_st (pc' := 20) (L' := [some (.inr 0), some (.inl x1), some (.inr 8), some (.inl v3), some (.inl v4)]) (S' := []) (M' := M) rfl rfl rfl rfl ?_
      refine zg_iload_n (x := v3) dX5_countFree_20 rfl ?_
      refine zg_aload_n (x := 8) dX5_countFree_21 rfl ?_
      refine zg_iload (x := v4) dX5_countFree_22 rfl ?_
      refine zg_zald dX5_countFree_24 rfl (z_cf c17 hx1 hI) ?_
      refine zg_ifz (tgt := 32) dX5_countFree_25 rfl rfl (fun c25 => ?_) (fun c25 => ?_)
      · refine zg_st (pc' := 32) (L' := [some (.inr 0), some (.inl x1), some (.inr 8), some (.inl v3), some (.inl v4)]) (S' := [.inl v3]) (M' := M) rfl rfl rfl rfl ?_
        refine zg_iconst (v := 1) dX5_countFree_32 rfl ?_
        refine zg_iadd dX5_countFree_33 ?_
        refine zg_istore_n dX5_countFree_34 (by decide) ?_
        refine zg_st (pc' := 35) (L' := [some (.inr 0), some (.inl x1), some (.inr 8), some (.inl (v3 + 1)), some (.inl v4)]) (S' := []) (M' := M) rfl rfl rfl rfl ?_
        refine zg_iinc (v := (v4 + 1)) dX5_countFree_35 rfl (by decide) rfl ?_
        refine zg_st (pc' := 38) (L' := [some (.inr 0), some (.inl x1), some (.inr 8), some (.inl (v3 + 1)), some (.inl (v4 + 1))]) (S' := []) (M' := M) rfl rfl rfl rfl ?_
        refine zg_goto (tgt := 8) dX5_countFree_38 rfl ?_
        refine zg_st (pc' := 8) (L' := [some (.inr 0), some (.inl x1), some (.inr 8), some (.inl (v3 + 1)), some (.inl (v4 + 1))]) (S' := []) (M' := M) rfl rfl rfl rfl ?_
        refine zg_drop (L' := [some (.inr 0), some (.inl x1), some (.inr 8), some (.inl (v3 + 1)), some (.inl (v4 + 1))]) ⟨rfl, rfl, rfl, rfl, rfl, trivial⟩ ?_
        exact ih (v3 + 1) (v4 + 1) (z_ge0 c17 hI) (z_up c17 hm)
      · refine zg_st (pc' := 28) (L' := [some (.inr 0), some (.inl x1), some (.inr 8), some (.inl v3), some (.inl v4)]) (S' := [.inl v3]) (M' := M) rfl rfl rfl rfl ?_
        refine zg_iconst (v := 0) dX5_countFree_28 rfl ?_
        refine zg_goto (tgt := 33) dX5_countFree_29 rfl ?_
        refine zg_st (pc' := 33) (L' := [some (.inr 0), some (.inl x1), some (.inr 8), some (.inl v3), some (.inl v4)]) (S' := [.inl 0, .inl v3]) (M' := M) rfl rfl rfl rfl ?_
        refine zg_iadd dX5_countFree_33 ?_
        refine zg_istore_n dX5_countFree_34 (by decide) ?_
        refine zg_st (pc' := 35) (L' := [some (.inr 0), some (.inl x1), some (.inr 8), some (.inl (v3 + 0)), some (.inl v4)]) (S' := []) (M' := M) rfl rfl rfl rfl ?_
        refine zg_iinc (v := (v4 + 1)) dX5_countFree_35 rfl (by decide) rfl ?_
        refine zg_st (pc' := 38) (L' := [some (.inr 0), some (.inl x1), some (.inr 8), some (.inl (v3 + 0)), some (.inl (v4 + 1))]) (S' := []) (M' := M) rfl rfl rfl rfl ?_
        refine zg_goto (tgt := 8) dX5_countFree_38 rfl ?_
        refine zg_st (pc' := 8) (L' := [some (.inr 0), some (.inl x1), some (.inr 8), some (.inl (v3 + 0)), some (.inl (v4 + 1))]) (S' := []) (M' := M) rfl rfl rfl rfl ?_
        refine zg_drop (L' := [some (.inr 0), some (.inl x1), some (.inr 8), some (.inl (v3 + 0)), some (.inl (v4 + 1))]) ⟨rfl, rfl, rfl, rfl, rfl, trivial⟩ ?_
        exact ih (v3 + 0) (v4 + 1) (z_ge0 c17 hI) (z_up c17 hm)
def f_X5_countFree_8 (p1 : Int32) (M : Mem) : Int32 :=
  zlet (l_X5_countFree_8_8 p1 M (((((40 * p1) + 40) : Int32).toInt - ((40 * p1) : Int32).toInt).toNat + 1) 0 (40 * p1)) (fun s1 =>
  s1.1)
set_option maxRecDepth 100000 in
set_option maxHeartbeats 4000000 in
theorem k_X5_countFree_8 (q : ZQ) (p1 : Int32) (M : Mem) (hp : 0 ≤ p1.toInt ∧ p1.toInt < 3) : Zc (zgM q) mX5_countFree 0 0 [.inr 0, .inl p1, .inr 8] M (wI M (f_X5_countFree_8 p1 M)) := by
  refine Zc.of (by decide) zi_X5_countFree.1 (Nat.le_of_ble_eq_true rfl) rfl ?_
  show Zg _ _ _ _ _ _ (zlet (f_X5_countFree_8 p1 M) (wI M)) _ _ _ _
  unfold f_X5_countFree_8
  refine zg_iconst (v := 0) dX5_countFree_0 rfl ?_
  refine zg_istore_n dX5_countFree_1 (by decide) ?_
  refine zg_st (pc' := 2) (L' := [some (.inr 0), some (.inl p1), some (.inr 8), some (.inl 0), none]) (S' := []) (M' := M) rfl rfl rfl rfl ?_
  refine zg_bipush (v := 40) dX5_countFree_2 rfl ?_
  refine zg_iload_n (x := p1) dX5_countFree_4 rfl ?_
  refine zg_imul dX5_countFree_5 ?_
  refine zg_istore dX5_countFree_6 (by decide) ?_
  refine zg_st (pc' := 8) (L' := [some (.inr 0), some (.inl p1), some (.inr 8), some (.inl 0), some (.inl (40 * p1))]) (S' := []) (M' := M) rfl rfl rfl rfl ?_
  refine zg_asc ?_
  refine zg_drop (L' := [some (.inr 0), some (.inl p1), some (.inr 8), some (.inl 0), some (.inl (40 * p1))]) ⟨rfl, rfl, rfl, rfl, rfl, trivial⟩ ?_
  refine kl_X5_countFree_8_8 q p1 M hp (fun s1 hI_s1 => ?_) (((((40 * p1) + 40) : Int32).toInt - ((40 * p1) : Int32).toInt).toNat + 1) 0 (40 * p1) (by rw [z40' hp]; omega) (Nat.lt_succ_self _)
  try dsimp only [Sum.elim_inr]
  refine zg_st (pc' := 41) (L' := [some (.inr 0), some (.inl p1), some (.inr 8), some (.inl s1.1), some (.inl s1.2)]) (S' := []) (M' := M) rfl rfl rfl rfl ?_
  refine zg_iload_n (x := s1.1) dX5_countFree_41 rfl ?_
  exact zg_iret dX5_countFree_42 rfl rfl ⟨by decide, by decide⟩ rfl
theorem dX5_free_0 : decode cX5_free 0 = .ok (.aload_n 0, 1) := by decide +kernel
theorem dX5_free_1 : decode cX5_free 1 = .ok (.iload_n 1, 1) := by decide +kernel
theorem dX5_free_2 : decode cX5_free 2 = .ok (.iconst 0, 1) := by decide +kernel
theorem dX5_free_3 : decode cX5_free 3 = .ok (.iconst 2, 1) := by decide +kernel
theorem dX5_free_4 : decode cX5_free 4 = .ok (.invokestatic 66, 3) := by decide +kernel
theorem dX5_free_7 : decode cX5_free 7 = .ok (.ifCond .eq 7, 3) := by decide +kernel
theorem dX5_free_10 : decode cX5_free 10 = .ok (.iconst 0, 1) := by decide +kernel
theorem dX5_free_11 : decode cX5_free 11 = .ok (.goto 4, 3) := by decide +kernel
theorem dX5_free_14 : decode cX5_free 14 = .ok (.iconst 1, 1) := by decide +kernel
theorem dX5_free_15 : decode cX5_free 15 = .ok (.invokevirtual 74, 3) := by decide +kernel
theorem dX5_free_18 : decode cX5_free 18 = .ok (.ifCond .eq 7, 3) := by decide +kernel
theorem dX5_free_21 : decode cX5_free 21 = .ok (.iconst 0, 1) := by decide +kernel
theorem dX5_free_22 : decode cX5_free 22 = .ok (.goto 12, 3) := by decide +kernel
theorem dX5_free_25 : decode cX5_free 25 = .ok (.aload_n 0, 1) := by decide +kernel
theorem dX5_free_26 : decode cX5_free 26 = .ok (.iload_n 1, 1) := by decide +kernel
theorem dX5_free_27 : decode cX5_free 27 = .ok (.aload_n 0, 1) := by decide +kernel
theorem dX5_free_28 : decode cX5_free 28 = .ok (.getfield 35, 3) := by decide +kernel
theorem dX5_free_31 : decode cX5_free 31 = .ok (.invokevirtual 108, 3) := by decide +kernel
theorem dX5_free_34 : decode cX5_free 34 = .ok (.ireturn, 1) := by decide +kernel
def f_X5_free (p1 : Int32) (M : Mem) : (Int32 × Mem) :=
  if (f_X5_in p1 0 2) then ((f_X5_countFree_8 p1 (mup M 0 0 0)), (mup M 0 0 0))
  else (0, (mup M 0 0 1))
set_option maxRecDepth 100000 in
set_option maxHeartbeats 4000000 in
theorem k_X5_free (q : ZQ) (p1 : Int32) (M : Mem) : Zc (zgM q) mX5_free 0 0 [.inr 0, .inl p1] M (wIM (f_X5_free p1 M)) := by
  refine Zc.of (by decide) zi_X5_free.1 (Nat.le_of_ble_eq_true rfl) rfl ?_
  show Zg _ _ _ _ _ _ (zlet (f_X5_free p1 M) wIM) _ _ _ _
  unfold f_X5_free
  refine zg_aload_n (x := 0) dX5_free_0 rfl ?_
  refine zg_iload_n (x := p1) dX5_free_1 rfl ?_
  refine zg_iconst (v := 0) dX5_free_2 rfl ?_
  refine zg_iconst (v := 2) dX5_free_3 rfl ?_
  refine zg_cS1 (As := [.inl p1, .inl 0, .inl 2]) (S := [.inr 0]) (v := bI ((f_X5_in p1 0 2))) dX5_free_4 zk_X5_66 (k_X5_in q p1 0 2 M) rfl ⟨by decide, by decide⟩ ⟨by decide, by decide⟩ rfl (Nat.le_of_ble_eq_true rfl) ?_
  refine zg_st (pc' := 7) (L' := [some (.inr 0), some (.inl p1)]) (S' := [.inl (bI ((f_X5_in p1 0 2))), .inr 0]) (M' := M) rfl rfl rfl rfl ?_
  refine zg_ifbe (tgt := 14) dX5_free_7 rfl (fun c7 => ?_) (fun c7 => ?_)
  · refine zg_st (pc' := 10) (L' := [some (.inr 0), some (.inl p1)]) (S' := [.inr 0]) (M' := M) rfl rfl rfl rfl ?_
    refine zg_iconst (v := 0) dX5_free_10 rfl ?_
    refine zg_goto (tgt := 15) dX5_free_11 rfl ?_
    refine zg_st (pc' := 15) (L' := [some (.inr 0), some (.inl p1)]) (S' := [.inl 0, .inr 0]) (M' := M) rfl rfl rfl rfl ?_
    refine zg_cV1 (As := [.inl 0]) (S := []) (v := 0) (N0 := (mup M 0 0 0)) dX5_free_15 zk_X5_74 (k_X5_refused q 0 M) rfl rfl ⟨by decide, by decide⟩ ⟨by decide, by decide⟩ rfl (Nat.le_of_ble_eq_true rfl) ?_
    refine zg_st (pc' := 18) (L' := [some (.inr 0), some (.inl p1)]) (S' := [.inl 0]) (M' := (mup M 0 0 0)) rfl rfl rfl rfl ?_
    refine zg_jt (tgt := 25) dX5_free_18 rfl (show (0 : Int32) = 0 from by decide) ?_
    refine zg_st (pc' := 25) (L' := [some (.inr 0), some (.inl p1)]) (S' := []) (M' := (mup M 0 0 0)) rfl rfl rfl rfl ?_
    refine zg_aload_n (x := 0) dX5_free_25 rfl ?_
    refine zg_iload_n (x := p1) dX5_free_26 rfl ?_
    refine zg_aload_n (x := 0) dX5_free_27 rfl ?_
    refine zg_getf (v := .inr 8) dX5_free_28 zf_X5_35 rfl rfl rfl ?_
    refine zg_cV1 (As := [.inl p1, .inr 8]) (S := []) (v := (f_X5_countFree_8 p1 (mup M 0 0 0))) dX5_free_31 zk_X5_108 (k_X5_countFree_8 q p1 (mup M 0 0 0) (z_in3 c7)) rfl rfl ⟨by decide, by decide⟩ ⟨by decide, by decide⟩ rfl (Nat.le_of_ble_eq_true rfl) ?_
    refine zg_st (pc' := 34) (L' := [some (.inr 0), some (.inl p1)]) (S' := [.inl (f_X5_countFree_8 p1 (mup M 0 0 0))]) (M' := (mup M 0 0 0)) rfl rfl rfl rfl ?_
    exact zg_iret dX5_free_34 rfl rfl ⟨by decide, by decide⟩ rfl
  · refine zg_st (pc' := 14) (L' := [some (.inr 0), some (.inl p1)]) (S' := [.inr 0]) (M' := M) rfl rfl rfl rfl ?_
    refine zg_iconst (v := 1) dX5_free_14 rfl ?_
    refine zg_cV1 (As := [.inl 1]) (S := []) (v := 1) (N0 := (mup M 0 0 1)) dX5_free_15 zk_X5_74 (k_X5_refused q 1 M) rfl rfl ⟨by decide, by decide⟩ ⟨by decide, by decide⟩ rfl (Nat.le_of_ble_eq_true rfl) ?_
    refine zg_st (pc' := 18) (L' := [some (.inr 0), some (.inl p1)]) (S' := [.inl 1]) (M' := (mup M 0 0 1)) rfl rfl rfl rfl ?_
    refine zg_jf (tgt := 25) dX5_free_18 rfl (show ¬ ((1 : Int32) = 0) from by decide) ?_
    refine zg_st (pc' := 21) (L' := [some (.inr 0), some (.inl p1)]) (S' := []) (M' := (mup M 0 0 1)) rfl rfl rfl rfl ?_
    refine zg_iconst (v := 0) dX5_free_21 rfl ?_
    refine zg_goto (tgt := 34) dX5_free_22 rfl ?_
    refine zg_st (pc' := 34) (L' := [some (.inr 0), some (.inl p1)]) (S' := [.inl 0]) (M' := (mup M 0 0 1)) rfl rfl rfl rfl ?_
    exact zg_iret dX5_free_34 rfl rfl ⟨by decide, by decide⟩ rfl
theorem dX5_healAll_0 : decode cX5_healAll 0 = .ok (.aload_n 0, 1) := by decide +kernel
theorem dX5_healAll_1 : decode cX5_healAll 1 = .ok (.iload_n 1, 1) := by decide +kernel
theorem dX5_healAll_2 : decode cX5_healAll 2 = .ok (.invokevirtual 95, 3) := by decide +kernel
theorem dX5_healAll_5 : decode cX5_healAll 5 = .ok (.ifCond .eq 53, 3) := by decide +kernel
theorem dX5_healAll_8 : decode cX5_healAll 8 = .ok (.aload_n 0, 1) := by decide +kernel
theorem dX5_healAll_9 : decode cX5_healAll 9 = .ok (.aload_n 0, 1) := by decide +kernel
theorem dX5_healAll_10 : decode cX5_healAll 10 = .ok (.getfield 23, 3) := by decide +kernel
theorem dX5_healAll_13 : decode cX5_healAll 13 = .ok (.iload_n 1, 1) := by decide +kernel
theorem dX5_healAll_14 : decode cX5_healAll 14 = .ok (.iaload, 1) := by decide +kernel
theorem dX5_healAll_15 : decode cX5_healAll 15 = .ok (.iconst 0, 1) := by decide +kernel
theorem dX5_healAll_16 : decode cX5_healAll 16 = .ok (.invokevirtual 88, 3) := by decide +kernel
theorem dX5_healAll_19 : decode cX5_healAll 19 = .ok (.aload_n 0, 1) := by decide +kernel
theorem dX5_healAll_20 : decode cX5_healAll 20 = .ok (.aload_n 0, 1) := by decide +kernel
theorem dX5_healAll_21 : decode cX5_healAll 21 = .ok (.getfield 23, 3) := by decide +kernel
theorem dX5_healAll_24 : decode cX5_healAll 24 = .ok (.iload_n 1, 1) := by decide +kernel
theorem dX5_healAll_25 : decode cX5_healAll 25 = .ok (.iaload, 1) := by decide +kernel
theorem dX5_healAll_26 : decode cX5_healAll 26 = .ok (.iconst 1, 1) := by decide +kernel
theorem dX5_healAll_27 : decode cX5_healAll 27 = .ok (.invokevirtual 88, 3) := by decide +kernel
theorem dX5_healAll_30 : decode cX5_healAll 30 = .ok (.iadd, 1) := by decide +kernel
theorem dX5_healAll_31 : decode cX5_healAll 31 = .ok (.aload_n 0, 1) := by decide +kernel
theorem dX5_healAll_32 : decode cX5_healAll 32 = .ok (.aload_n 0, 1) := by decide +kernel
theorem dX5_healAll_33 : decode cX5_healAll 33 = .ok (.getfield 26, 3) := by decide +kernel
theorem dX5_healAll_36 : decode cX5_healAll 36 = .ok (.iload_n 1, 1) := by decide +kernel
theorem dX5_healAll_37 : decode cX5_healAll 37 = .ok (.iaload, 1) := by decide +kernel
theorem dX5_healAll_38 : decode cX5_healAll 38 = .ok (.iconst 0, 1) := by decide +kernel
theorem dX5_healAll_39 : decode cX5_healAll 39 = .ok (.invokevirtual 88, 3) := by decide +kernel
theorem dX5_healAll_42 : decode cX5_healAll 42 = .ok (.iadd, 1) := by decide +kernel
theorem dX5_healAll_43 : decode cX5_healAll 43 = .ok (.aload_n 0, 1) := by decide +kernel
theorem dX5_healAll_44 : decode cX5_healAll 44 = .ok (.aload_n 0, 1) := by decide +kernel
theorem dX5_healAll_45 : decode cX5_healAll 45 = .ok (.getfield 26, 3) := by decide +kernel
theorem dX5_healAll_48 : decode cX5_healAll 48 = .ok (.iload_n 1, 1) := by decide +kernel
theorem dX5_healAll_49 : decode cX5_healAll 49 = .ok (.iaload, 1) := by decide +kernel
theorem dX5_healAll_50 : decode cX5_healAll 50 = .ok (.iconst 1, 1) := by decide +kernel
theorem dX5_healAll_51 : decode cX5_healAll 51 = .ok (.invokevirtual 88, 3) := by decide +kernel
theorem dX5_healAll_54 : decode cX5_healAll 54 = .ok (.iadd, 1) := by decide +kernel
theorem dX5_healAll_55 : decode cX5_healAll 55 = .ok (.goto 4, 3) := by decide +kernel
theorem dX5_healAll_58 : decode cX5_healAll 58 = .ok (.iconst 0, 1) := by decide +kernel
theorem dX5_healAll_59 : decode cX5_healAll 59 = .ok (.ireturn, 1) := by decide +kernel
def f_X5_healAll (p1 : Int32) (M : Mem) : (Int32 × Mem) :=
  if (f_X5_isReadable p1 M) then zlet (f_X5_heal (M 4 p1.toNatClampNeg) 0 M) (fun q1 =>
    zlet (f_X5_heal (q1.2 4 p1.toNatClampNeg) 1 q1.2) (fun q2 =>
      zlet (f_X5_heal (q2.2 5 p1.toNatClampNeg) 0 q2.2) (fun q3 =>
        zlet (f_X5_heal (q3.2 5 p1.toNatClampNeg) 1 q3.2) (fun q4 =>
          ((((q1.1 + q2.1) + q3.1) + q4.1), q4.2)))))
  else (0, M)
set_option maxRecDepth 100000 in
set_option maxHeartbeats 4000000 in
theorem k_X5_healAll (q : ZQ) (p1 : Int32) (M : Mem) (hp : vp_in p1 53 ∧ PlM M) : Zc (zgM q) mX5_healAll 0 0 [.inr 0, .inl p1] M (wIM (f_X5_healAll p1 M)) := by
  refine Zc.of (by decide) zi_X5_healAll.1 (Nat.le_of_ble_eq_true rfl) rfl ?_
  show Zg _ _ _ _ _ _ (zlet (f_X5_healAll p1 M) wIM) _ _ _ _
  unfold f_X5_healAll
  refine zg_aload_n (x := 0) dX5_healAll_0 rfl ?_
  refine zg_iload_n (x := p1) dX5_healAll_1 rfl ?_
  refine zg_cV1 (As := [.inl p1]) (S := []) (v := bI ((f_X5_isReadable p1 M))) dX5_healAll_2 zk_X5_95 (k_X5_isReadable q p1 M hp) rfl rfl ⟨by decide, by decide⟩ ⟨by decide, by decide⟩ rfl (Nat.le_of_ble_eq_true rfl) ?_
  refine zg_st (pc' := 5) (L' := [some (.inr 0), some (.inl p1)]) (S' := [.inl (bI ((f_X5_isReadable p1 M)))]) (M' := M) rfl rfl rfl rfl ?_
  refine zg_ifbe (tgt := 58) dX5_healAll_5 rfl (fun c5 => ?_) (fun c5 => ?_)
  · refine zg_st (pc' := 8) (L' := [some (.inr 0), some (.inl p1)]) (S' := []) (M' := M) rfl rfl rfl rfl ?_
    refine zg_aload_n (x := 0) dX5_healAll_8 rfl ?_
    refine zg_aload_n (x := 0) dX5_healAll_9 rfl ?_
    refine zg_getf (v := .inr 4) dX5_healAll_10 zf_X5_23 rfl rfl rfl ?_
    refine zg_iload_n (x := p1) dX5_healAll_13 rfl ?_
    refine zg_iald dX5_healAll_14 rfl hp.1 ?_
    refine zg_iconst (v := 0) dX5_healAll_15 rfl ?_
    refine zg_cVIM (As := [.inl (M 4 p1.toNatClampNeg), .inl 0]) (S := []) dX5_healAll_16 zk_X5_88 (k_X5_heal q (M 4 p1.toNatClampNeg) 0 M (by subst_vars; first | exact zPl_at (hp.2).1 hp.1 (by decide) | exact zPl_at (hp.2).2 hp.1 (by decide) | exact zPl_at (sp_heal hp.2).1 hp.1 (by decide) | exact zPl_at (sp_heal hp.2).2 hp.1 (by decide) | exact zPl_at (sp_heal (sp_heal hp.2)).1 hp.1 (by decide) | exact zPl_at (sp_heal (sp_heal hp.2)).2 hp.1 (by decide) | exact zPl_at (sp_heal (sp_heal (sp_heal hp.2))).1 hp.1 (by decide) | exact zPl_at (sp_heal (sp_heal (sp_heal hp.2))).2 hp.1 (by decide))) rfl rfl ⟨by decide, by decide⟩ ⟨by decide, by decide⟩ rfl (Nat.le_of_ble_eq_true rfl) (fun q1 e_q1 => ?_)
    try dsimp only
    refine zg_st (pc' := 19) (L' := [some (.inr 0), some (.inl p1)]) (S' := [.inl q1.1]) (M' := q1.2) rfl rfl rfl rfl ?_
    refine zg_aload_n (x := 0) dX5_healAll_19 rfl ?_
    refine zg_aload_n (x := 0) dX5_healAll_20 rfl ?_
    refine zg_getf (v := .inr 4) dX5_healAll_21 zf_X5_23 rfl rfl rfl ?_
    refine zg_iload_n (x := p1) dX5_healAll_24 rfl ?_
    refine zg_iald dX5_healAll_25 rfl hp.1 ?_
    refine zg_iconst (v := 1) dX5_healAll_26 rfl ?_
    refine zg_cVIM (As := [.inl (q1.2 4 p1.toNatClampNeg), .inl 1]) (S := [.inl q1.1]) dX5_healAll_27 zk_X5_88 (k_X5_heal q (q1.2 4 p1.toNatClampNeg) 1 q1.2 (by subst_vars; first | exact zPl_at (hp.2).1 hp.1 (by decide) | exact zPl_at (hp.2).2 hp.1 (by decide) | exact zPl_at (sp_heal hp.2).1 hp.1 (by decide) | exact zPl_at (sp_heal hp.2).2 hp.1 (by decide) | exact zPl_at (sp_heal (sp_heal hp.2)).1 hp.1 (by decide) | exact zPl_at (sp_heal (sp_heal hp.2)).2 hp.1 (by decide) | exact zPl_at (sp_heal (sp_heal (sp_heal hp.2))).1 hp.1 (by decide) | exact zPl_at (sp_heal (sp_heal (sp_heal hp.2))).2 hp.1 (by decide))) rfl rfl ⟨by decide, by decide⟩ ⟨by decide, by decide⟩ rfl (Nat.le_of_ble_eq_true rfl) (fun q2 e_q2 => ?_)
    try dsimp only
    refine zg_st (pc' := 30) (L' := [some (.inr 0), some (.inl p1)]) (S' := [.inl q2.1, .inl q1.1]) (M' := q2.2) rfl rfl rfl rfl ?_
    refine zg_iadd dX5_healAll_30 ?_
    refine zg_aload_n (x := 0) dX5_healAll_31 rfl ?_
    refine zg_aload_n (x := 0) dX5_healAll_32 rfl ?_
    refine zg_getf (v := .inr 5) dX5_healAll_33 zf_X5_26 rfl rfl rfl ?_
    refine zg_iload_n (x := p1) dX5_healAll_36 rfl ?_
    refine zg_iald dX5_healAll_37 rfl hp.1 ?_
    refine zg_iconst (v := 0) dX5_healAll_38 rfl ?_
    refine zg_cVIM (As := [.inl (q2.2 5 p1.toNatClampNeg), .inl 0]) (S := [.inl (q1.1 + q2.1)]) dX5_healAll_39 zk_X5_88 (k_X5_heal q (q2.2 5 p1.toNatClampNeg) 0 q2.2 (by subst_vars; first | exact zPl_at (hp.2).1 hp.1 (by decide) | exact zPl_at (hp.2).2 hp.1 (by decide) | exact zPl_at (sp_heal hp.2).1 hp.1 (by decide) | exact zPl_at (sp_heal hp.2).2 hp.1 (by decide) | exact zPl_at (sp_heal (sp_heal hp.2)).1 hp.1 (by decide) | exact zPl_at (sp_heal (sp_heal hp.2)).2 hp.1 (by decide) | exact zPl_at (sp_heal (sp_heal (sp_heal hp.2))).1 hp.1 (by decide) | exact zPl_at (sp_heal (sp_heal (sp_heal hp.2))).2 hp.1 (by decide))) rfl rfl ⟨by decide, by decide⟩ ⟨by decide, by decide⟩ rfl (Nat.le_of_ble_eq_true rfl) (fun q3 e_q3 => ?_)
    try dsimp only
    refine zg_st (pc' := 42) (L' := [some (.inr 0), some (.inl p1)]) (S' := [.inl q3.1, .inl (q1.1 + q2.1)]) (M' := q3.2) rfl rfl rfl rfl ?_
    refine zg_iadd dX5_healAll_42 ?_
    refine zg_aload_n (x := 0) dX5_healAll_43 rfl ?_
    refine zg_aload_n (x := 0) dX5_healAll_44 rfl ?_
    refine zg_getf (v := .inr 5) dX5_healAll_45 zf_X5_26 rfl rfl rfl ?_
    refine zg_iload_n (x := p1) dX5_healAll_48 rfl ?_
    refine zg_iald dX5_healAll_49 rfl hp.1 ?_
    refine zg_iconst (v := 1) dX5_healAll_50 rfl ?_
    refine zg_cVIM (As := [.inl (q3.2 5 p1.toNatClampNeg), .inl 1]) (S := [.inl ((q1.1 + q2.1) + q3.1)]) dX5_healAll_51 zk_X5_88 (k_X5_heal q (q3.2 5 p1.toNatClampNeg) 1 q3.2 (by subst_vars; first | exact zPl_at (hp.2).1 hp.1 (by decide) | exact zPl_at (hp.2).2 hp.1 (by decide) | exact zPl_at (sp_heal hp.2).1 hp.1 (by decide) | exact zPl_at (sp_heal hp.2).2 hp.1 (by decide) | exact zPl_at (sp_heal (sp_heal hp.2)).1 hp.1 (by decide) | exact zPl_at (sp_heal (sp_heal hp.2)).2 hp.1 (by decide) | exact zPl_at (sp_heal (sp_heal (sp_heal hp.2))).1 hp.1 (by decide) | exact zPl_at (sp_heal (sp_heal (sp_heal hp.2))).2 hp.1 (by decide))) rfl rfl ⟨by decide, by decide⟩ ⟨by decide, by decide⟩ rfl (Nat.le_of_ble_eq_true rfl) (fun q4 e_q4 => ?_)
    try dsimp only
    refine zg_st (pc' := 54) (L' := [some (.inr 0), some (.inl p1)]) (S' := [.inl q4.1, .inl ((q1.1 + q2.1) + q3.1)]) (M' := q4.2) rfl rfl rfl rfl ?_
    refine zg_iadd dX5_healAll_54 ?_
    refine zg_goto (tgt := 59) dX5_healAll_55 rfl ?_
    refine zg_st (pc' := 59) (L' := [some (.inr 0), some (.inl p1)]) (S' := [.inl (((q1.1 + q2.1) + q3.1) + q4.1)]) (M' := q4.2) rfl rfl rfl rfl ?_
    exact zg_iret dX5_healAll_59 rfl rfl ⟨by decide, by decide⟩ rfl
  · refine zg_st (pc' := 58) (L' := [some (.inr 0), some (.inl p1)]) (S' := []) (M' := M) rfl rfl rfl rfl ?_
    refine zg_iconst (v := 0) dX5_healAll_58 rfl ?_
    exact zg_iret dX5_healAll_59 rfl rfl ⟨by decide, by decide⟩ rfl
theorem dX5_healed_0 : decode cX5_healed 0 = .ok (.aload_n 0, 1) := by decide +kernel
theorem dX5_healed_1 : decode cX5_healed 1 = .ok (.aload_n 0, 1) := by decide +kernel
theorem dX5_healed_2 : decode cX5_healed 2 = .ok (.getfield 85, 3) := by decide +kernel
theorem dX5_healed_5 : decode cX5_healed 5 = .ok (.invokevirtual 149, 3) := by decide +kernel
theorem dX5_healed_8 : decode cX5_healed 8 = .ok (.ireturn, 1) := by decide +kernel
def f_X5_healed (M : Mem) : (Int32 × Mem) :=
  ((M 0 2), (mup M 0 0 0))
set_option maxRecDepth 100000 in
set_option maxHeartbeats 4000000 in
theorem k_X5_healed (q : ZQ) (M : Mem) : Zc (zgM q) mX5_healed 0 0 [.inr 0] M (wIM (f_X5_healed M)) := by
  refine Zc.of (by decide) zi_X5_healed.1 (Nat.le_of_ble_eq_true rfl) rfl ?_
  show Zg _ _ _ _ _ _ (zlet (f_X5_healed M) wIM) _ _ _ _
  unfold f_X5_healed
  refine zg_aload_n (x := 0) dX5_healed_0 rfl ?_
  refine zg_aload_n (x := 0) dX5_healed_1 rfl ?_
  refine zg_getf (v := .inl (M 0 2)) dX5_healed_2 zf_X5_85 rfl rfl rfl ?_
  refine zg_cV1 (As := [.inl (M 0 2)]) (S := []) (v := (M 0 2)) (N0 := (mup M 0 0 0)) dX5_healed_5 zk_X5_149 (k_X5_fine q (M 0 2) M) rfl rfl ⟨by decide, by decide⟩ ⟨by decide, by decide⟩ rfl (Nat.le_of_ble_eq_true rfl) ?_
  refine zg_st (pc' := 8) (L' := [some (.inr 0)]) (S' := [.inl (M 0 2)]) (M' := (mup M 0 0 0)) rfl rfl rfl rfl ?_
  exact zg_iret dX5_healed_8 rfl rfl ⟨by decide, by decide⟩ rfl
theorem dX5_places_0 : decode cX5_places 0 = .ok (.aload_n 0, 1) := by decide +kernel
theorem dX5_places_1 : decode cX5_places 1 = .ok (.iload_n 1, 1) := by decide +kernel
theorem dX5_places_2 : decode cX5_places 2 = .ok (.iload_n 2, 1) := by decide +kernel
theorem dX5_places_3 : decode cX5_places 3 = .ok (.invokestatic 70, 3) := by decide +kernel
theorem dX5_places_6 : decode cX5_places 6 = .ok (.ifCond .eq 7, 3) := by decide +kernel
theorem dX5_places_9 : decode cX5_places 9 = .ok (.iconst 0, 1) := by decide +kernel
theorem dX5_places_10 : decode cX5_places 10 = .ok (.goto 4, 3) := by decide +kernel
theorem dX5_places_13 : decode cX5_places 13 = .ok (.iconst 1, 1) := by decide +kernel
theorem dX5_places_14 : decode cX5_places 14 = .ok (.invokevirtual 74, 3) := by decide +kernel
theorem dX5_places_17 : decode cX5_places 17 = .ok (.ifCond .eq 5, 3) := by decide +kernel
theorem dX5_places_20 : decode cX5_places 20 = .ok (.iconst 0, 1) := by decide +kernel
theorem dX5_places_21 : decode cX5_places 21 = .ok (.ireturn, 1) := by decide +kernel
theorem dX5_places_22 : decode cX5_places 22 = .ok (.bipush 12, 2) := by decide +kernel
theorem dX5_places_24 : decode cX5_places 24 = .ok (.iload_n 1, 1) := by decide +kernel
theorem dX5_places_25 : decode cX5_places 25 = .ok (.imul, 1) := by decide +kernel
theorem dX5_places_26 : decode cX5_places 26 = .ok (.iload_n 2, 1) := by decide +kernel
theorem dX5_places_27 : decode cX5_places 27 = .ok (.iadd, 1) := by decide +kernel
theorem dX5_places_28 : decode cX5_places 28 = .ok (.istore_n 3, 1) := by decide +kernel
theorem dX5_places_29 : decode cX5_places 29 = .ok (.aload_n 0, 1) := by decide +kernel
theorem dX5_places_30 : decode cX5_places 30 = .ok (.getfield 23, 3) := by decide +kernel
theorem dX5_places_33 : decode cX5_places 33 = .ok (.iload_n 3, 1) := by decide +kernel
theorem dX5_places_34 : decode cX5_places 34 = .ok (.iaload, 1) := by decide +kernel
theorem dX5_places_35 : decode cX5_places 35 = .ok (.iconst (-1), 1) := by decide +kernel
theorem dX5_places_36 : decode cX5_places 36 = .ok (.if_icmp .ne 7, 3) := by decide +kernel
theorem dX5_places_39 : decode cX5_places 39 = .ok (.iconst 0, 1) := by decide +kernel
theorem dX5_places_40 : decode cX5_places 40 = .ok (.goto 4, 3) := by decide +kernel
theorem dX5_places_43 : decode cX5_places 43 = .ok (.iconst 1, 1) := by decide +kernel
theorem dX5_places_44 : decode cX5_places 44 = .ok (.aload_n 0, 1) := by decide +kernel
theorem dX5_places_45 : decode cX5_places 45 = .ok (.getfield 26, 3) := by decide +kernel
theorem dX5_places_48 : decode cX5_places 48 = .ok (.iload_n 3, 1) := by decide +kernel
theorem dX5_places_49 : decode cX5_places 49 = .ok (.iaload, 1) := by decide +kernel
theorem dX5_places_50 : decode cX5_places 50 = .ok (.iconst (-1), 1) := by decide +kernel
theorem dX5_places_51 : decode cX5_places 51 = .ok (.if_icmp .ne 7, 3) := by decide +kernel
theorem dX5_places_54 : decode cX5_places 54 = .ok (.iconst 0, 1) := by decide +kernel
theorem dX5_places_55 : decode cX5_places 55 = .ok (.goto 4, 3) := by decide +kernel
theorem dX5_places_58 : decode cX5_places 58 = .ok (.iconst 1, 1) := by decide +kernel
theorem dX5_places_59 : decode cX5_places 59 = .ok (.iadd, 1) := by decide +kernel
theorem dX5_places_60 : decode cX5_places 60 = .ok (.ireturn, 1) := by decide +kernel
def f_X5_places (p1 : Int32) (p2 : Int32) (M : Mem) : (Int32 × Mem) :=
  if (f_X5_isBlock p1 p2) then if ¬ ((mup M 0 0 0) 4 ((12 * p1) + p2).toNatClampNeg) = (-1) then if ¬ ((mup M 0 0 0) 5 ((12 * p1) + p2).toNatClampNeg) = (-1) then (((1 : Int32) + 1), (mup M 0 0 0))
      else (((1 : Int32) + 0), (mup M 0 0 0))
    else if ¬ ((mup M 0 0 0) 5 ((12 * p1) + p2).toNatClampNeg) = (-1) then (((0 : Int32) + 1), (mup M 0 0 0))
    else (((0 : Int32) + 0), (mup M 0 0 0))
  else (0, (mup M 0 0 1))
set_option maxRecDepth 100000 in
set_option maxHeartbeats 4000000 in
theorem k_X5_places (q : ZQ) (p1 : Int32) (p2 : Int32) (M : Mem) : Zc (zgM q) mX5_places 0 0 [.inr 0, .inl p1, .inl p2] M (wIM (f_X5_places p1 p2 M)) := by
  refine Zc.of (by decide) zi_X5_places.1 (Nat.le_of_ble_eq_true rfl) rfl ?_
  show Zg _ _ _ _ _ _ (zlet (f_X5_places p1 p2 M) wIM) _ _ _ _
  unfold f_X5_places
  refine zg_aload_n (x := 0) dX5_places_0 rfl ?_
  refine zg_iload_n (x := p1) dX5_places_1 rfl ?_
  refine zg_iload_n (x := p2) dX5_places_2 rfl ?_
  refine zg_cS1 (As := [.inl p1, .inl p2]) (S := [.inr 0]) (v := bI ((f_X5_isBlock p1 p2))) dX5_places_3 zk_X5_70 (k_X5_isBlock q p1 p2 M) rfl ⟨by decide, by decide⟩ ⟨by decide, by decide⟩ rfl (Nat.le_of_ble_eq_true rfl) ?_
  refine zg_st (pc' := 6) (L' := [some (.inr 0), some (.inl p1), some (.inl p2), none]) (S' := [.inl (bI ((f_X5_isBlock p1 p2))), .inr 0]) (M' := M) rfl rfl rfl rfl ?_
  refine zg_ifbe (tgt := 13) dX5_places_6 rfl (fun c6 => ?_) (fun c6 => ?_)
  · refine zg_st (pc' := 9) (L' := [some (.inr 0), some (.inl p1), some (.inl p2), none]) (S' := [.inr 0]) (M' := M) rfl rfl rfl rfl ?_
    refine zg_iconst (v := 0) dX5_places_9 rfl ?_
    refine zg_goto (tgt := 14) dX5_places_10 rfl ?_
    refine zg_st (pc' := 14) (L' := [some (.inr 0), some (.inl p1), some (.inl p2), none]) (S' := [.inl 0, .inr 0]) (M' := M) rfl rfl rfl rfl ?_
    refine zg_cV1 (As := [.inl 0]) (S := []) (v := 0) (N0 := (mup M 0 0 0)) dX5_places_14 zk_X5_74 (k_X5_refused q 0 M) rfl rfl ⟨by decide, by decide⟩ ⟨by decide, by decide⟩ rfl (Nat.le_of_ble_eq_true rfl) ?_
    refine zg_st (pc' := 17) (L' := [some (.inr 0), some (.inl p1), some (.inl p2), none]) (S' := [.inl 0]) (M' := (mup M 0 0 0)) rfl rfl rfl rfl ?_
    refine zg_jt (tgt := 22) dX5_places_17 rfl (show (0 : Int32) = 0 from by decide) ?_
    refine zg_st (pc' := 22) (L' := [some (.inr 0), some (.inl p1), some (.inl p2), none]) (S' := []) (M' := (mup M 0 0 0)) rfl rfl rfl rfl ?_
    refine zg_bipush (v := 12) dX5_places_22 rfl ?_
    refine zg_iload_n (x := p1) dX5_places_24 rfl ?_
    refine zg_imul dX5_places_25 ?_
    refine zg_iload_n (x := p2) dX5_places_26 rfl ?_
    refine zg_iadd dX5_places_27 ?_
    refine zg_istore_n dX5_places_28 (by decide) ?_
    refine zg_st (pc' := 29) (L' := [some (.inr 0), some (.inl p1), some (.inl p2), some (.inl ((12 * p1) + p2))]) (S' := []) (M' := (mup M 0 0 0)) rfl rfl rfl rfl ?_
    refine zg_aload_n (x := 0) dX5_places_29 rfl ?_
    refine zg_getf (v := .inr 4) dX5_places_30 zf_X5_23 rfl rfl rfl ?_
    refine zg_iload_n (x := ((12 * p1) + p2)) dX5_places_33 rfl ?_
    refine zg_iald dX5_places_34 rfl (z_b53 c6) ?_
    refine zg_iconst (v := (-1)) dX5_places_35 rfl ?_
    refine zg_icmpz (tgt := 43) dX5_places_36 rfl rfl (fun c36 => ?_) (fun c36 => ?_)
    · refine zg_st (pc' := 43) (L' := [some (.inr 0), some (.inl p1), some (.inl p2), some (.inl ((12 * p1) + p2))]) (S' := []) (M' := (mup M 0 0 0)) rfl rfl rfl rfl ?_
      refine zg_iconst (v := 1) dX5_places_43 rfl ?_
      refine zg_aload_n (x := 0) dX5_places_44 rfl ?_
      refine zg_getf (v := .inr 5) dX5_places_45 zf_X5_26 rfl rfl rfl ?_
      refine zg_iload_n (x := ((12 * p1) + p2)) dX5_places_48 rfl ?_
      refine zg_iald dX5_places_49 rfl (z_b53 c6) ?_
      refine zg_iconst (v := (-1)) dX5_places_50 rfl ?_
      refine zg_icmpz (tgt := 58) dX5_places_51 rfl rfl (fun c51 => ?_) (fun c51 => ?_)
      · refine zg_st (pc' := 58) (L' := [some (.inr 0), some (.inl p1), some (.inl p2), some (.inl ((12 * p1) + p2))]) (S' := [.inl 1]) (M' := (mup M 0 0 0)) rfl rfl rfl rfl ?_
        refine zg_iconst (v := 1) dX5_places_58 rfl ?_
        refine zg_iadd dX5_places_59 ?_
        exact zg_iret dX5_places_60 rfl rfl ⟨by decide, by decide⟩ rfl
      · refine zg_st (pc' := 54) (L' := [some (.inr 0), some (.inl p1), some (.inl p2), some (.inl ((12 * p1) + p2))]) (S' := [.inl 1]) (M' := (mup M 0 0 0)) rfl rfl rfl rfl ?_
        refine zg_iconst (v := 0) dX5_places_54 rfl ?_
        refine zg_goto (tgt := 59) dX5_places_55 rfl ?_
        refine zg_st (pc' := 59) (L' := [some (.inr 0), some (.inl p1), some (.inl p2), some (.inl ((12 * p1) + p2))]) (S' := [.inl 0, .inl 1]) (M' := (mup M 0 0 0)) rfl rfl rfl rfl ?_
        refine zg_iadd dX5_places_59 ?_
        exact zg_iret dX5_places_60 rfl rfl ⟨by decide, by decide⟩ rfl
    · refine zg_st (pc' := 39) (L' := [some (.inr 0), some (.inl p1), some (.inl p2), some (.inl ((12 * p1) + p2))]) (S' := []) (M' := (mup M 0 0 0)) rfl rfl rfl rfl ?_
      refine zg_iconst (v := 0) dX5_places_39 rfl ?_
      refine zg_goto (tgt := 44) dX5_places_40 rfl ?_
      refine zg_st (pc' := 44) (L' := [some (.inr 0), some (.inl p1), some (.inl p2), some (.inl ((12 * p1) + p2))]) (S' := [.inl 0]) (M' := (mup M 0 0 0)) rfl rfl rfl rfl ?_
      refine zg_aload_n (x := 0) dX5_places_44 rfl ?_
      refine zg_getf (v := .inr 5) dX5_places_45 zf_X5_26 rfl rfl rfl ?_
      refine zg_iload_n (x := ((12 * p1) + p2)) dX5_places_48 rfl ?_
      refine zg_iald dX5_places_49 rfl (z_b53 c6) ?_
      refine zg_iconst (v := (-1)) dX5_places_50 rfl ?_
      refine zg_icmpz (tgt := 58) dX5_places_51 rfl rfl (fun c51 => ?_) (fun c51 => ?_)
      · refine zg_st (pc' := 58) (L' := [some (.inr 0), some (.inl p1), some (.inl p2), some (.inl ((12 * p1) + p2))]) (S' := [.inl 0]) (M' := (mup M 0 0 0)) rfl rfl rfl rfl ?_
        refine zg_iconst (v := 1) dX5_places_58 rfl ?_
        refine zg_iadd dX5_places_59 ?_
        exact zg_iret dX5_places_60 rfl rfl ⟨by decide, by decide⟩ rfl
      · refine zg_st (pc' := 54) (L' := [some (.inr 0), some (.inl p1), some (.inl p2), some (.inl ((12 * p1) + p2))]) (S' := [.inl 0]) (M' := (mup M 0 0 0)) rfl rfl rfl rfl ?_
        refine zg_iconst (v := 0) dX5_places_54 rfl ?_
        refine zg_goto (tgt := 59) dX5_places_55 rfl ?_
        refine zg_st (pc' := 59) (L' := [some (.inr 0), some (.inl p1), some (.inl p2), some (.inl ((12 * p1) + p2))]) (S' := [.inl 0, .inl 0]) (M' := (mup M 0 0 0)) rfl rfl rfl rfl ?_
        refine zg_iadd dX5_places_59 ?_
        exact zg_iret dX5_places_60 rfl rfl ⟨by decide, by decide⟩ rfl
  · refine zg_st (pc' := 13) (L' := [some (.inr 0), some (.inl p1), some (.inl p2), none]) (S' := [.inr 0]) (M' := M) rfl rfl rfl rfl ?_
    refine zg_iconst (v := 1) dX5_places_13 rfl ?_
    refine zg_cV1 (As := [.inl 1]) (S := []) (v := 1) (N0 := (mup M 0 0 1)) dX5_places_14 zk_X5_74 (k_X5_refused q 1 M) rfl rfl ⟨by decide, by decide⟩ ⟨by decide, by decide⟩ rfl (Nat.le_of_ble_eq_true rfl) ?_
    refine zg_st (pc' := 17) (L' := [some (.inr 0), some (.inl p1), some (.inl p2), none]) (S' := [.inl 1]) (M' := (mup M 0 0 1)) rfl rfl rfl rfl ?_
    refine zg_jf (tgt := 22) dX5_places_17 rfl (show ¬ ((1 : Int32) = 0) from by decide) ?_
    refine zg_st (pc' := 20) (L' := [some (.inr 0), some (.inl p1), some (.inl p2), none]) (S' := []) (M' := (mup M 0 0 1)) rfl rfl rfl rfl ?_
    refine zg_iconst (v := 0) dX5_places_20 rfl ?_
    exact zg_iret dX5_places_21 rfl rfl ⟨by decide, by decide⟩ rfl
theorem dX5_placeOf_0 : decode cX5_placeOf 0 = .ok (.iload_n 2, 1) := by decide +kernel
theorem dX5_placeOf_1 : decode cX5_placeOf 1 = .ok (.ifCond .ne 12, 3) := by decide +kernel
theorem dX5_placeOf_4 : decode cX5_placeOf 4 = .ok (.aload_n 0, 1) := by decide +kernel
theorem dX5_placeOf_5 : decode cX5_placeOf 5 = .ok (.getfield 23, 3) := by decide +kernel
theorem dX5_placeOf_8 : decode cX5_placeOf 8 = .ok (.iload_n 1, 1) := by decide +kernel
theorem dX5_placeOf_9 : decode cX5_placeOf 9 = .ok (.iaload, 1) := by decide +kernel
theorem dX5_placeOf_10 : decode cX5_placeOf 10 = .ok (.goto 18, 3) := by decide +kernel
theorem dX5_placeOf_13 : decode cX5_placeOf 13 = .ok (.iload_n 2, 1) := by decide +kernel
theorem dX5_placeOf_14 : decode cX5_placeOf 14 = .ok (.iconst 1, 1) := by decide +kernel
theorem dX5_placeOf_15 : decode cX5_placeOf 15 = .ok (.if_icmp .ne 12, 3) := by decide +kernel
theorem dX5_placeOf_18 : decode cX5_placeOf 18 = .ok (.aload_n 0, 1) := by decide +kernel
theorem dX5_placeOf_19 : decode cX5_placeOf 19 = .ok (.getfield 26, 3) := by decide +kernel
theorem dX5_placeOf_22 : decode cX5_placeOf 22 = .ok (.iload_n 1, 1) := by decide +kernel
theorem dX5_placeOf_23 : decode cX5_placeOf 23 = .ok (.iaload, 1) := by decide +kernel
theorem dX5_placeOf_24 : decode cX5_placeOf 24 = .ok (.goto 4, 3) := by decide +kernel
theorem dX5_placeOf_27 : decode cX5_placeOf 27 = .ok (.iconst (-1), 1) := by decide +kernel
theorem dX5_placeOf_28 : decode cX5_placeOf 28 = .ok (.istore 4, 2) := by decide +kernel
theorem dX5_placeOf_30 : decode cX5_placeOf 30 = .ok (.aload_n 0, 1) := by decide +kernel
theorem dX5_placeOf_31 : decode cX5_placeOf 31 = .ok (.iload 4, 2) := by decide +kernel
theorem dX5_placeOf_33 : decode cX5_placeOf 33 = .ok (.iconst (-1), 1) := by decide +kernel
theorem dX5_placeOf_34 : decode cX5_placeOf 34 = .ok (.if_icmp .ne 7, 3) := by decide +kernel
theorem dX5_placeOf_37 : decode cX5_placeOf 37 = .ok (.iload_n 3, 1) := by decide +kernel
theorem dX5_placeOf_38 : decode cX5_placeOf 38 = .ok (.goto 4, 3) := by decide +kernel
theorem dX5_placeOf_41 : decode cX5_placeOf 41 = .ok (.iconst 0, 1) := by decide +kernel
theorem dX5_placeOf_42 : decode cX5_placeOf 42 = .ok (.invokevirtual 74, 3) := by decide +kernel
theorem dX5_placeOf_45 : decode cX5_placeOf 45 = .ok (.ifCond .eq 7, 3) := by decide +kernel
theorem dX5_placeOf_48 : decode cX5_placeOf 48 = .ok (.iconst 0, 1) := by decide +kernel
theorem dX5_placeOf_49 : decode cX5_placeOf 49 = .ok (.goto 17, 3) := by decide +kernel
theorem dX5_placeOf_52 : decode cX5_placeOf 52 = .ok (.bipush 100, 2) := by decide +kernel
theorem dX5_placeOf_54 : decode cX5_placeOf 54 = .ok (.iload 4, 2) := by decide +kernel
theorem dX5_placeOf_56 : decode cX5_placeOf 56 = .ok (.bipush 40, 2) := by decide +kernel
theorem dX5_placeOf_58 : decode cX5_placeOf 58 = .ok (.idiv, 1) := by decide +kernel
theorem dX5_placeOf_59 : decode cX5_placeOf 59 = .ok (.imul, 1) := by decide +kernel
theorem dX5_placeOf_60 : decode cX5_placeOf 60 = .ok (.iload 4, 2) := by decide +kernel
theorem dX5_placeOf_62 : decode cX5_placeOf 62 = .ok (.bipush 40, 2) := by decide +kernel
theorem dX5_placeOf_64 : decode cX5_placeOf 64 = .ok (.irem, 1) := by decide +kernel
theorem dX5_placeOf_65 : decode cX5_placeOf 65 = .ok (.iadd, 1) := by decide +kernel
theorem dX5_placeOf_66 : decode cX5_placeOf 66 = .ok (.ireturn, 1) := by decide +kernel
def f_X5_placeOf (p1 : Int32) (p2 : Int32) (p3 : Int32) (M : Mem) : (Int32 × Mem) :=
  if ¬ p2 = 0 then if ¬ p2 = 1 then zlet (f_X5_refused p3 M) (fun q1 =>
      if q1.1 then (0, q1.2)
        else (((100 * (((-1) : Int32) / 40)) + (((-1) : Int32) - ((-1) : Int32) / 40 * 40)), q1.2))
    else if ¬ (M 5 p1.toNatClampNeg) = (-1) then (((100 * ((M 5 p1.toNatClampNeg) / 40)) + ((M 5 p1.toNatClampNeg) - (M 5 p1.toNatClampNeg) / 40 * 40)), (mup M 0 0 0))
    else zlet (f_X5_refused p3 M) (fun q2 =>
    if q2.1 then (0, q2.2)
      else (((100 * ((M 5 p1.toNatClampNeg) / 40)) + ((M 5 p1.toNatClampNeg) - (M 5 p1.toNatClampNeg) / 40 * 40)), q2.2))
  else if ¬ (M 4 p1.toNatClampNeg) = (-1) then (((100 * ((M 4 p1.toNatClampNeg) / 40)) + ((M 4 p1.toNatClampNeg) - (M 4 p1.toNatClampNeg) / 40 * 40)), (mup M 0 0 0))
  else zlet (f_X5_refused p3 M) (fun q3 =>
  if q3.1 then (0, q3.2)
    else (((100 * ((M 4 p1.toNatClampNeg) / 40)) + ((M 4 p1.toNatClampNeg) - (M 4 p1.toNatClampNeg) / 40 * 40)), q3.2))
set_option maxRecDepth 100000 in
set_option maxHeartbeats 4000000 in
theorem k_X5_placeOf (q : ZQ) (p1 : Int32) (p2 : Int32) (p3 : Int32) (M : Mem) (hp : vp_in p1 53) : Zc (zgM q) mX5_placeOf 0 0 [.inr 0, .inl p1, .inl p2, .inl p3] M (wIM (f_X5_placeOf p1 p2 p3 M)) := by
  refine Zc.of (by decide) zi_X5_placeOf.1 (Nat.le_of_ble_eq_true rfl) rfl ?_
  show Zg _ _ _ _ _ _ (zlet (f_X5_placeOf p1 p2 p3 M) wIM) _ _ _ _
  unfold f_X5_placeOf
  refine zg_iload_n (x := p2) dX5_placeOf_0 rfl ?_
  refine zg_ifz (tgt := 13) dX5_placeOf_1 rfl rfl (fun c1 => ?_) (fun c1 => ?_)
  · refine zg_st (pc' := 13) (L' := [some (.inr 0), some (.inl p1), some (.inl p2), some (.inl p3), none]) (S' := []) (M' := M) rfl rfl rfl rfl ?_
    refine zg_iload_n (x := p2) dX5_placeOf_13 rfl ?_
    refine zg_iconst (v := 1) dX5_placeOf_14 rfl ?_
    refine zg_icmpz (tgt := 27) dX5_placeOf_15 rfl rfl (fun c15 => ?_) (fun c15 => ?_)
    · refine zg_st (pc' := 27) (L' := [some (.inr 0), some (.inl p1), some (.inl p2), some (.inl p3), none]) (S' := []) (M' := M) rfl rfl rfl rfl ?_
      refine zg_iconst (v := (-1)) dX5_placeOf_27 rfl ?_
      refine zg_istore dX5_placeOf_28 (by decide) ?_
      refine zg_st (pc' := 30) (L' := [some (.inr 0), some (.inl p1), some (.inl p2), some (.inl p3), some (.inl (-1))]) (S' := []) (M' := M) rfl rfl rfl rfl ?_
      refine zg_aload_n (x := 0) dX5_placeOf_30 rfl ?_
      refine zg_iload (x := (-1)) dX5_placeOf_31 rfl ?_
      refine zg_iconst (v := (-1)) dX5_placeOf_33 rfl ?_
      refine zg_jf2 (tgt := 41) dX5_placeOf_34 rfl (show ¬ (¬ ((-1) : Int32) = (-1)) from by decide) ?_
      refine zg_st (pc' := 37) (L' := [some (.inr 0), some (.inl p1), some (.inl p2), some (.inl p3), some (.inl (-1))]) (S' := [.inr 0]) (M' := M) rfl rfl rfl rfl ?_
      refine zg_iload_n (x := p3) dX5_placeOf_37 rfl ?_
      refine zg_goto (tgt := 42) dX5_placeOf_38 rfl ?_
      refine zg_st (pc' := 42) (L' := [some (.inr 0), some (.inl p1), some (.inl p2), some (.inl p3), some (.inl (-1))]) (S' := [.inl p3, .inr 0]) (M' := M) rfl rfl rfl rfl ?_
      refine zg_cVBM (As := [.inl p3]) (S := []) dX5_placeOf_42 zk_X5_74 (k_X5_refused q p3 M) rfl rfl ⟨by decide, by decide⟩ ⟨by decide, by decide⟩ rfl (Nat.le_of_ble_eq_true rfl) (fun q1 e_q1 => ?_)
      try dsimp only
      refine zg_st (pc' := 45) (L' := [some (.inr 0), some (.inl p1), some (.inl p2), some (.inl p3), some (.inl (-1))]) (S' := [.inl (bI q1.1)]) (M' := q1.2) rfl rfl rfl rfl ?_
      refine zg_ifbe (tgt := 52) dX5_placeOf_45 rfl (fun c45 => ?_) (fun c45 => ?_)
      · refine zg_st (pc' := 48) (L' := [some (.inr 0), some (.inl p1), some (.inl p2), some (.inl p3), some (.inl (-1))]) (S' := []) (M' := q1.2) rfl rfl rfl rfl ?_
        refine zg_iconst (v := 0) dX5_placeOf_48 rfl ?_
        refine zg_goto (tgt := 66) dX5_placeOf_49 rfl ?_
        refine zg_st (pc' := 66) (L' := [some (.inr 0), some (.inl p1), some (.inl p2), some (.inl p3), some (.inl (-1))]) (S' := [.inl 0]) (M' := q1.2) rfl rfl rfl rfl ?_
        exact zg_iret dX5_placeOf_66 rfl rfl ⟨by decide, by decide⟩ rfl
      · refine zg_st (pc' := 52) (L' := [some (.inr 0), some (.inl p1), some (.inl p2), some (.inl p3), some (.inl (-1))]) (S' := []) (M' := q1.2) rfl rfl rfl rfl ?_
        refine zg_bipush (v := 100) dX5_placeOf_52 rfl ?_
        refine zg_iload (x := (-1)) dX5_placeOf_54 rfl ?_
        refine zg_bipush (v := 40) dX5_placeOf_56 rfl ?_
        refine zg_idiv dX5_placeOf_58 (by decide) ?_
        refine zg_imul dX5_placeOf_59 ?_
        refine zg_iload (x := (-1)) dX5_placeOf_60 rfl ?_
        refine zg_bipush (v := 40) dX5_placeOf_62 rfl ?_
        refine zg_irem dX5_placeOf_64 (by decide) ?_
        refine zg_iadd dX5_placeOf_65 ?_
        exact zg_iret dX5_placeOf_66 rfl rfl ⟨by decide, by decide⟩ rfl
    · refine zg_st (pc' := 18) (L' := [some (.inr 0), some (.inl p1), some (.inl p2), some (.inl p3), none]) (S' := []) (M' := M) rfl rfl rfl rfl ?_
      refine zg_aload_n (x := 0) dX5_placeOf_18 rfl ?_
      refine zg_getf (v := .inr 5) dX5_placeOf_19 zf_X5_26 rfl rfl rfl ?_
      refine zg_iload_n (x := p1) dX5_placeOf_22 rfl ?_
      refine zg_iald dX5_placeOf_23 rfl hp ?_
      refine zg_goto (tgt := 28) dX5_placeOf_24 rfl ?_
      refine zg_st (pc' := 28) (L' := [some (.inr 0), some (.inl p1), some (.inl p2), some (.inl p3), none]) (S' := [.inl (M 5 p1.toNatClampNeg)]) (M' := M) rfl rfl rfl rfl ?_
      refine zg_istore dX5_placeOf_28 (by decide) ?_
      refine zg_st (pc' := 30) (L' := [some (.inr 0), some (.inl p1), some (.inl p2), some (.inl p3), some (.inl (M 5 p1.toNatClampNeg))]) (S' := []) (M' := M) rfl rfl rfl rfl ?_
      refine zg_aload_n (x := 0) dX5_placeOf_30 rfl ?_
      refine zg_iload (x := (M 5 p1.toNatClampNeg)) dX5_placeOf_31 rfl ?_
      refine zg_iconst (v := (-1)) dX5_placeOf_33 rfl ?_
      refine zg_icmpz (tgt := 41) dX5_placeOf_34 rfl rfl (fun c34 => ?_) (fun c34 => ?_)
      · refine zg_st (pc' := 41) (L' := [some (.inr 0), some (.inl p1), some (.inl p2), some (.inl p3), some (.inl (M 5 p1.toNatClampNeg))]) (S' := [.inr 0]) (M' := M) rfl rfl rfl rfl ?_
        refine zg_iconst (v := 0) dX5_placeOf_41 rfl ?_
        refine zg_cV1 (As := [.inl 0]) (S := []) (v := 0) (N0 := (mup M 0 0 0)) dX5_placeOf_42 zk_X5_74 (k_X5_refused q 0 M) rfl rfl ⟨by decide, by decide⟩ ⟨by decide, by decide⟩ rfl (Nat.le_of_ble_eq_true rfl) ?_
        refine zg_st (pc' := 45) (L' := [some (.inr 0), some (.inl p1), some (.inl p2), some (.inl p3), some (.inl (M 5 p1.toNatClampNeg))]) (S' := [.inl 0]) (M' := (mup M 0 0 0)) rfl rfl rfl rfl ?_
        refine zg_jt (tgt := 52) dX5_placeOf_45 rfl (show (0 : Int32) = 0 from by decide) ?_
        refine zg_st (pc' := 52) (L' := [some (.inr 0), some (.inl p1), some (.inl p2), some (.inl p3), some (.inl (M 5 p1.toNatClampNeg))]) (S' := []) (M' := (mup M 0 0 0)) rfl rfl rfl rfl ?_
        refine zg_bipush (v := 100) dX5_placeOf_52 rfl ?_
        refine zg_iload (x := (M 5 p1.toNatClampNeg)) dX5_placeOf_54 rfl ?_
        refine zg_bipush (v := 40) dX5_placeOf_56 rfl ?_
        refine zg_idiv dX5_placeOf_58 (by decide) ?_
        refine zg_imul dX5_placeOf_59 ?_
        refine zg_iload (x := (M 5 p1.toNatClampNeg)) dX5_placeOf_60 rfl ?_
        refine zg_bipush (v := 40) dX5_placeOf_62 rfl ?_
        refine zg_irem dX5_placeOf_64 (by decide) ?_
        refine zg_iadd dX5_placeOf_65 ?_
        exact zg_iret dX5_placeOf_66 rfl rfl ⟨by decide, by decide⟩ rfl
      · refine zg_st (pc' := 37) (L' := [some (.inr 0), some (.inl p1), some (.inl p2), some (.inl p3), some (.inl (M 5 p1.toNatClampNeg))]) (S' := [.inr 0]) (M' := M) rfl rfl rfl rfl ?_
        refine zg_iload_n (x := p3) dX5_placeOf_37 rfl ?_
        refine zg_goto (tgt := 42) dX5_placeOf_38 rfl ?_
        refine zg_st (pc' := 42) (L' := [some (.inr 0), some (.inl p1), some (.inl p2), some (.inl p3), some (.inl (M 5 p1.toNatClampNeg))]) (S' := [.inl p3, .inr 0]) (M' := M) rfl rfl rfl rfl ?_
        refine zg_cVBM (As := [.inl p3]) (S := []) dX5_placeOf_42 zk_X5_74 (k_X5_refused q p3 M) rfl rfl ⟨by decide, by decide⟩ ⟨by decide, by decide⟩ rfl (Nat.le_of_ble_eq_true rfl) (fun q2 e_q2 => ?_)
        try dsimp only
        refine zg_st (pc' := 45) (L' := [some (.inr 0), some (.inl p1), some (.inl p2), some (.inl p3), some (.inl (M 5 p1.toNatClampNeg))]) (S' := [.inl (bI q2.1)]) (M' := q2.2) rfl rfl rfl rfl ?_
        refine zg_ifbe (tgt := 52) dX5_placeOf_45 rfl (fun c45 => ?_) (fun c45 => ?_)
        · refine zg_st (pc' := 48) (L' := [some (.inr 0), some (.inl p1), some (.inl p2), some (.inl p3), some (.inl (M 5 p1.toNatClampNeg))]) (S' := []) (M' := q2.2) rfl rfl rfl rfl ?_
          refine zg_iconst (v := 0) dX5_placeOf_48 rfl ?_
          refine zg_goto (tgt := 66) dX5_placeOf_49 rfl ?_
          refine zg_st (pc' := 66) (L' := [some (.inr 0), some (.inl p1), some (.inl p2), some (.inl p3), some (.inl (M 5 p1.toNatClampNeg))]) (S' := [.inl 0]) (M' := q2.2) rfl rfl rfl rfl ?_
          exact zg_iret dX5_placeOf_66 rfl rfl ⟨by decide, by decide⟩ rfl
        · refine zg_st (pc' := 52) (L' := [some (.inr 0), some (.inl p1), some (.inl p2), some (.inl p3), some (.inl (M 5 p1.toNatClampNeg))]) (S' := []) (M' := q2.2) rfl rfl rfl rfl ?_
          refine zg_bipush (v := 100) dX5_placeOf_52 rfl ?_
          refine zg_iload (x := (M 5 p1.toNatClampNeg)) dX5_placeOf_54 rfl ?_
          refine zg_bipush (v := 40) dX5_placeOf_56 rfl ?_
          refine zg_idiv dX5_placeOf_58 (by decide) ?_
          refine zg_imul dX5_placeOf_59 ?_
          refine zg_iload (x := (M 5 p1.toNatClampNeg)) dX5_placeOf_60 rfl ?_
          refine zg_bipush (v := 40) dX5_placeOf_62 rfl ?_
          refine zg_irem dX5_placeOf_64 (by decide) ?_
          refine zg_iadd dX5_placeOf_65 ?_
          exact zg_iret dX5_placeOf_66 rfl rfl ⟨by decide, by decide⟩ rfl
  · refine zg_st (pc' := 4) (L' := [some (.inr 0), some (.inl p1), some (.inl p2), some (.inl p3), none]) (S' := []) (M' := M) rfl rfl rfl rfl ?_
    refine zg_aload_n (x := 0) dX5_placeOf_4 rfl ?_
    refine zg_getf (v := .inr 4) dX5_placeOf_5 zf_X5_23 rfl rfl rfl ?_
    refine zg_iload_n (x := p1) dX5_placeOf_8 rfl ?_
    refine zg_iald dX5_placeOf_9 rfl hp ?_
    refine zg_goto (tgt := 28) dX5_placeOf_10 rfl ?_
    refine zg_st (pc' := 28) (L' := [some (.inr 0), some (.inl p1), some (.inl p2), some (.inl p3), none]) (S' := [.inl (M 4 p1.toNatClampNeg)]) (M' := M) rfl rfl rfl rfl ?_
    refine zg_istore dX5_placeOf_28 (by decide) ?_
    refine zg_st (pc' := 30) (L' := [some (.inr 0), some (.inl p1), some (.inl p2), some (.inl p3), some (.inl (M 4 p1.toNatClampNeg))]) (S' := []) (M' := M) rfl rfl rfl rfl ?_
    refine zg_aload_n (x := 0) dX5_placeOf_30 rfl ?_
    refine zg_iload (x := (M 4 p1.toNatClampNeg)) dX5_placeOf_31 rfl ?_
    refine zg_iconst (v := (-1)) dX5_placeOf_33 rfl ?_
    refine zg_icmpz (tgt := 41) dX5_placeOf_34 rfl rfl (fun c34 => ?_) (fun c34 => ?_)
    · refine zg_st (pc' := 41) (L' := [some (.inr 0), some (.inl p1), some (.inl p2), some (.inl p3), some (.inl (M 4 p1.toNatClampNeg))]) (S' := [.inr 0]) (M' := M) rfl rfl rfl rfl ?_
      refine zg_iconst (v := 0) dX5_placeOf_41 rfl ?_
      refine zg_cV1 (As := [.inl 0]) (S := []) (v := 0) (N0 := (mup M 0 0 0)) dX5_placeOf_42 zk_X5_74 (k_X5_refused q 0 M) rfl rfl ⟨by decide, by decide⟩ ⟨by decide, by decide⟩ rfl (Nat.le_of_ble_eq_true rfl) ?_
      refine zg_st (pc' := 45) (L' := [some (.inr 0), some (.inl p1), some (.inl p2), some (.inl p3), some (.inl (M 4 p1.toNatClampNeg))]) (S' := [.inl 0]) (M' := (mup M 0 0 0)) rfl rfl rfl rfl ?_
      refine zg_jt (tgt := 52) dX5_placeOf_45 rfl (show (0 : Int32) = 0 from by decide) ?_
      refine zg_st (pc' := 52) (L' := [some (.inr 0), some (.inl p1), some (.inl p2), some (.inl p3), some (.inl (M 4 p1.toNatClampNeg))]) (S' := []) (M' := (mup M 0 0 0)) rfl rfl rfl rfl ?_
      refine zg_bipush (v := 100) dX5_placeOf_52 rfl ?_
      refine zg_iload (x := (M 4 p1.toNatClampNeg)) dX5_placeOf_54 rfl ?_
      refine zg_bipush (v := 40) dX5_placeOf_56 rfl ?_
      refine zg_idiv dX5_placeOf_58 (by decide) ?_
      refine zg_imul dX5_placeOf_59 ?_
      refine zg_iload (x := (M 4 p1.toNatClampNeg)) dX5_placeOf_60 rfl ?_
      refine zg_bipush (v := 40) dX5_placeOf_62 rfl ?_
      refine zg_irem dX5_placeOf_64 (by decide) ?_
      refine zg_iadd dX5_placeOf_65 ?_
      exact zg_iret dX5_placeOf_66 rfl rfl ⟨by decide, by decide⟩ rfl
    · refine zg_st (pc' := 37) (L' := [some (.inr 0), some (.inl p1), some (.inl p2), some (.inl p3), some (.inl (M 4 p1.toNatClampNeg))]) (S' := [.inr 0]) (M' := M) rfl rfl rfl rfl ?_
      refine zg_iload_n (x := p3) dX5_placeOf_37 rfl ?_
      refine zg_goto (tgt := 42) dX5_placeOf_38 rfl ?_
      refine zg_st (pc' := 42) (L' := [some (.inr 0), some (.inl p1), some (.inl p2), some (.inl p3), some (.inl (M 4 p1.toNatClampNeg))]) (S' := [.inl p3, .inr 0]) (M' := M) rfl rfl rfl rfl ?_
      refine zg_cVBM (As := [.inl p3]) (S := []) dX5_placeOf_42 zk_X5_74 (k_X5_refused q p3 M) rfl rfl ⟨by decide, by decide⟩ ⟨by decide, by decide⟩ rfl (Nat.le_of_ble_eq_true rfl) (fun q3 e_q3 => ?_)
      try dsimp only
      refine zg_st (pc' := 45) (L' := [some (.inr 0), some (.inl p1), some (.inl p2), some (.inl p3), some (.inl (M 4 p1.toNatClampNeg))]) (S' := [.inl (bI q3.1)]) (M' := q3.2) rfl rfl rfl rfl ?_
      refine zg_ifbe (tgt := 52) dX5_placeOf_45 rfl (fun c45 => ?_) (fun c45 => ?_)
      · refine zg_st (pc' := 48) (L' := [some (.inr 0), some (.inl p1), some (.inl p2), some (.inl p3), some (.inl (M 4 p1.toNatClampNeg))]) (S' := []) (M' := q3.2) rfl rfl rfl rfl ?_
        refine zg_iconst (v := 0) dX5_placeOf_48 rfl ?_
        refine zg_goto (tgt := 66) dX5_placeOf_49 rfl ?_
        refine zg_st (pc' := 66) (L' := [some (.inr 0), some (.inl p1), some (.inl p2), some (.inl p3), some (.inl (M 4 p1.toNatClampNeg))]) (S' := [.inl 0]) (M' := q3.2) rfl rfl rfl rfl ?_
        exact zg_iret dX5_placeOf_66 rfl rfl ⟨by decide, by decide⟩ rfl
      · refine zg_st (pc' := 52) (L' := [some (.inr 0), some (.inl p1), some (.inl p2), some (.inl p3), some (.inl (M 4 p1.toNatClampNeg))]) (S' := []) (M' := q3.2) rfl rfl rfl rfl ?_
        refine zg_bipush (v := 100) dX5_placeOf_52 rfl ?_
        refine zg_iload (x := (M 4 p1.toNatClampNeg)) dX5_placeOf_54 rfl ?_
        refine zg_bipush (v := 40) dX5_placeOf_56 rfl ?_
        refine zg_idiv dX5_placeOf_58 (by decide) ?_
        refine zg_imul dX5_placeOf_59 ?_
        refine zg_iload (x := (M 4 p1.toNatClampNeg)) dX5_placeOf_60 rfl ?_
        refine zg_bipush (v := 40) dX5_placeOf_62 rfl ?_
        refine zg_irem dX5_placeOf_64 (by decide) ?_
        refine zg_iadd dX5_placeOf_65 ?_
        exact zg_iret dX5_placeOf_66 rfl rfl ⟨by decide, by decide⟩ rfl
theorem dX5_place_0 : decode cX5_place 0 = .ok (.aload_n 0, 1) := by decide +kernel
theorem dX5_place_1 : decode cX5_place 1 = .ok (.iload_n 1, 1) := by decide +kernel
theorem dX5_place_2 : decode cX5_place 2 = .ok (.iload_n 2, 1) := by decide +kernel
theorem dX5_place_3 : decode cX5_place 3 = .ok (.invokestatic 70, 3) := by decide +kernel
theorem dX5_place_6 : decode cX5_place 6 = .ok (.ifCond .eq 7, 3) := by decide +kernel
theorem dX5_place_9 : decode cX5_place 9 = .ok (.iconst 0, 1) := by decide +kernel
theorem dX5_place_10 : decode cX5_place 10 = .ok (.goto 4, 3) := by decide +kernel
theorem dX5_place_13 : decode cX5_place 13 = .ok (.iconst 1, 1) := by decide +kernel
theorem dX5_place_14 : decode cX5_place 14 = .ok (.invokevirtual 74, 3) := by decide +kernel
theorem dX5_place_17 : decode cX5_place 17 = .ok (.ifCond .eq 7, 3) := by decide +kernel
theorem dX5_place_20 : decode cX5_place 20 = .ok (.iconst 0, 1) := by decide +kernel
theorem dX5_place_21 : decode cX5_place 21 = .ok (.goto 15, 3) := by decide +kernel
theorem dX5_place_24 : decode cX5_place 24 = .ok (.aload_n 0, 1) := by decide +kernel
theorem dX5_place_25 : decode cX5_place 25 = .ok (.bipush 12, 2) := by decide +kernel
theorem dX5_place_27 : decode cX5_place 27 = .ok (.iload_n 1, 1) := by decide +kernel
theorem dX5_place_28 : decode cX5_place 28 = .ok (.imul, 1) := by decide +kernel
theorem dX5_place_29 : decode cX5_place 29 = .ok (.iload_n 2, 1) := by decide +kernel
theorem dX5_place_30 : decode cX5_place 30 = .ok (.iadd, 1) := by decide +kernel
theorem dX5_place_31 : decode cX5_place 31 = .ok (.iload_n 3, 1) := by decide +kernel
theorem dX5_place_32 : decode cX5_place 32 = .ok (.iconst 2, 1) := by decide +kernel
theorem dX5_place_33 : decode cX5_place 33 = .ok (.invokevirtual 172, 3) := by decide +kernel
theorem dX5_place_36 : decode cX5_place 36 = .ok (.ireturn, 1) := by decide +kernel
def f_X5_place (p1 : Int32) (p2 : Int32) (p3 : Int32) (M : Mem) : (Int32 × Mem) :=
  if (f_X5_isBlock p1 p2) then zlet (f_X5_placeOf ((12 * p1) + p2) p3 2 (mup M 0 0 0)) (fun q1 =>
    (q1.1, q1.2))
  else (0, (mup M 0 0 1))
set_option maxRecDepth 100000 in
set_option maxHeartbeats 4000000 in
theorem k_X5_place (q : ZQ) (p1 : Int32) (p2 : Int32) (p3 : Int32) (M : Mem) : Zc (zgM q) mX5_place 0 0 [.inr 0, .inl p1, .inl p2, .inl p3] M (wIM (f_X5_place p1 p2 p3 M)) := by
  refine Zc.of (by decide) zi_X5_place.1 (Nat.le_of_ble_eq_true rfl) rfl ?_
  show Zg _ _ _ _ _ _ (zlet (f_X5_place p1 p2 p3 M) wIM) _ _ _ _
  unfold f_X5_place
  refine zg_aload_n (x := 0) dX5_place_0 rfl ?_
  refine zg_iload_n (x := p1) dX5_place_1 rfl ?_
  refine zg_iload_n (x := p2) dX5_place_2 rfl ?_
  refine zg_cS1 (As := [.inl p1, .inl p2]) (S := [.inr 0]) (v := bI ((f_X5_isBlock p1 p2))) dX5_place_3 zk_X5_70 (k_X5_isBlock q p1 p2 M) rfl ⟨by decide, by decide⟩ ⟨by decide, by decide⟩ rfl (Nat.le_of_ble_eq_true rfl) ?_
  refine zg_st (pc' := 6) (L' := [some (.inr 0), some (.inl p1), some (.inl p2), some (.inl p3)]) (S' := [.inl (bI ((f_X5_isBlock p1 p2))), .inr 0]) (M' := M) rfl rfl rfl rfl ?_
  refine zg_ifbe (tgt := 13) dX5_place_6 rfl (fun c6 => ?_) (fun c6 => ?_)
  · refine zg_st (pc' := 9) (L' := [some (.inr 0), some (.inl p1), some (.inl p2), some (.inl p3)]) (S' := [.inr 0]) (M' := M) rfl rfl rfl rfl ?_
    refine zg_iconst (v := 0) dX5_place_9 rfl ?_
    refine zg_goto (tgt := 14) dX5_place_10 rfl ?_
    refine zg_st (pc' := 14) (L' := [some (.inr 0), some (.inl p1), some (.inl p2), some (.inl p3)]) (S' := [.inl 0, .inr 0]) (M' := M) rfl rfl rfl rfl ?_
    refine zg_cV1 (As := [.inl 0]) (S := []) (v := 0) (N0 := (mup M 0 0 0)) dX5_place_14 zk_X5_74 (k_X5_refused q 0 M) rfl rfl ⟨by decide, by decide⟩ ⟨by decide, by decide⟩ rfl (Nat.le_of_ble_eq_true rfl) ?_
    refine zg_st (pc' := 17) (L' := [some (.inr 0), some (.inl p1), some (.inl p2), some (.inl p3)]) (S' := [.inl 0]) (M' := (mup M 0 0 0)) rfl rfl rfl rfl ?_
    refine zg_jt (tgt := 24) dX5_place_17 rfl (show (0 : Int32) = 0 from by decide) ?_
    refine zg_st (pc' := 24) (L' := [some (.inr 0), some (.inl p1), some (.inl p2), some (.inl p3)]) (S' := []) (M' := (mup M 0 0 0)) rfl rfl rfl rfl ?_
    refine zg_aload_n (x := 0) dX5_place_24 rfl ?_
    refine zg_bipush (v := 12) dX5_place_25 rfl ?_
    refine zg_iload_n (x := p1) dX5_place_27 rfl ?_
    refine zg_imul dX5_place_28 ?_
    refine zg_iload_n (x := p2) dX5_place_29 rfl ?_
    refine zg_iadd dX5_place_30 ?_
    refine zg_iload_n (x := p3) dX5_place_31 rfl ?_
    refine zg_iconst (v := 2) dX5_place_32 rfl ?_
    refine zg_cVIM (As := [.inl ((12 * p1) + p2), .inl p3, .inl 2]) (S := []) dX5_place_33 zk_X5_172 (k_X5_placeOf q ((12 * p1) + p2) p3 2 (mup M 0 0 0) (z_b53 c6)) rfl rfl ⟨by decide, by decide⟩ ⟨by decide, by decide⟩ rfl (Nat.le_of_ble_eq_true rfl) (fun q1 e_q1 => ?_)
    try dsimp only
    refine zg_st (pc' := 36) (L' := [some (.inr 0), some (.inl p1), some (.inl p2), some (.inl p3)]) (S' := [.inl q1.1]) (M' := q1.2) rfl rfl rfl rfl ?_
    exact zg_iret dX5_place_36 rfl rfl ⟨by decide, by decide⟩ rfl
  · refine zg_st (pc' := 13) (L' := [some (.inr 0), some (.inl p1), some (.inl p2), some (.inl p3)]) (S' := [.inr 0]) (M' := M) rfl rfl rfl rfl ?_
    refine zg_iconst (v := 1) dX5_place_13 rfl ?_
    refine zg_cV1 (As := [.inl 1]) (S := []) (v := 1) (N0 := (mup M 0 0 1)) dX5_place_14 zk_X5_74 (k_X5_refused q 1 M) rfl rfl ⟨by decide, by decide⟩ ⟨by decide, by decide⟩ rfl (Nat.le_of_ble_eq_true rfl) ?_
    refine zg_st (pc' := 17) (L' := [some (.inr 0), some (.inl p1), some (.inl p2), some (.inl p3)]) (S' := [.inl 1]) (M' := (mup M 0 0 1)) rfl rfl rfl rfl ?_
    refine zg_jf (tgt := 24) dX5_place_17 rfl (show ¬ ((1 : Int32) = 0) from by decide) ?_
    refine zg_st (pc' := 20) (L' := [some (.inr 0), some (.inl p1), some (.inl p2), some (.inl p3)]) (S' := []) (M' := (mup M 0 0 1)) rfl rfl rfl rfl ?_
    refine zg_iconst (v := 0) dX5_place_20 rfl ?_
    refine zg_goto (tgt := 36) dX5_place_21 rfl ?_
    refine zg_st (pc' := 36) (L' := [some (.inr 0), some (.inl p1), some (.inl p2), some (.inl p3)]) (S' := [.inl 0]) (M' := (mup M 0 0 1)) rfl rfl rfl rfl ?_
    exact zg_iret dX5_place_36 rfl rfl ⟨by decide, by decide⟩ rfl
theorem dX5_nodePlace_0 : decode cX5_nodePlace 0 = .ok (.aload_n 0, 1) := by decide +kernel
theorem dX5_nodePlace_1 : decode cX5_nodePlace 1 = .ok (.iload_n 1, 1) := by decide +kernel
theorem dX5_nodePlace_2 : decode cX5_nodePlace 2 = .ok (.iconst 0, 1) := by decide +kernel
theorem dX5_nodePlace_3 : decode cX5_nodePlace 3 = .ok (.iconst 3, 1) := by decide +kernel
theorem dX5_nodePlace_4 : decode cX5_nodePlace 4 = .ok (.invokestatic 66, 3) := by decide +kernel
theorem dX5_nodePlace_7 : decode cX5_nodePlace 7 = .ok (.ifCond .eq 7, 3) := by decide +kernel
theorem dX5_nodePlace_10 : decode cX5_nodePlace 10 = .ok (.iconst 0, 1) := by decide +kernel
theorem dX5_nodePlace_11 : decode cX5_nodePlace 11 = .ok (.goto 4, 3) := by decide +kernel
theorem dX5_nodePlace_14 : decode cX5_nodePlace 14 = .ok (.iconst 1, 1) := by decide +kernel
theorem dX5_nodePlace_15 : decode cX5_nodePlace 15 = .ok (.invokevirtual 74, 3) := by decide +kernel
theorem dX5_nodePlace_18 : decode cX5_nodePlace 18 = .ok (.ifCond .eq 7, 3) := by decide +kernel
theorem dX5_nodePlace_21 : decode cX5_nodePlace 21 = .ok (.iconst 0, 1) := by decide +kernel
theorem dX5_nodePlace_22 : decode cX5_nodePlace 22 = .ok (.goto 13, 3) := by decide +kernel
theorem dX5_nodePlace_25 : decode cX5_nodePlace 25 = .ok (.aload_n 0, 1) := by decide +kernel
theorem dX5_nodePlace_26 : decode cX5_nodePlace 26 = .ok (.bipush 48, 2) := by decide +kernel
theorem dX5_nodePlace_28 : decode cX5_nodePlace 28 = .ok (.iload_n 1, 1) := by decide +kernel
theorem dX5_nodePlace_29 : decode cX5_nodePlace 29 = .ok (.iadd, 1) := by decide +kernel
theorem dX5_nodePlace_30 : decode cX5_nodePlace 30 = .ok (.iload_n 2, 1) := by decide +kernel
theorem dX5_nodePlace_31 : decode cX5_nodePlace 31 = .ok (.iconst 2, 1) := by decide +kernel
theorem dX5_nodePlace_32 : decode cX5_nodePlace 32 = .ok (.invokevirtual 172, 3) := by decide +kernel
theorem dX5_nodePlace_35 : decode cX5_nodePlace 35 = .ok (.ireturn, 1) := by decide +kernel
def f_X5_nodePlace (p1 : Int32) (p2 : Int32) (M : Mem) : (Int32 × Mem) :=
  if (f_X5_in p1 0 3) then zlet (f_X5_placeOf (48 + p1) p2 2 (mup M 0 0 0)) (fun q1 =>
    (q1.1, q1.2))
  else (0, (mup M 0 0 1))
set_option maxRecDepth 100000 in
set_option maxHeartbeats 4000000 in
theorem k_X5_nodePlace (q : ZQ) (p1 : Int32) (p2 : Int32) (M : Mem) : Zc (zgM q) mX5_nodePlace 0 0 [.inr 0, .inl p1, .inl p2] M (wIM (f_X5_nodePlace p1 p2 M)) := by
  refine Zc.of (by decide) zi_X5_nodePlace.1 (Nat.le_of_ble_eq_true rfl) rfl ?_
  show Zg _ _ _ _ _ _ (zlet (f_X5_nodePlace p1 p2 M) wIM) _ _ _ _
  unfold f_X5_nodePlace
  refine zg_aload_n (x := 0) dX5_nodePlace_0 rfl ?_
  refine zg_iload_n (x := p1) dX5_nodePlace_1 rfl ?_
  refine zg_iconst (v := 0) dX5_nodePlace_2 rfl ?_
  refine zg_iconst (v := 3) dX5_nodePlace_3 rfl ?_
  refine zg_cS1 (As := [.inl p1, .inl 0, .inl 3]) (S := [.inr 0]) (v := bI ((f_X5_in p1 0 3))) dX5_nodePlace_4 zk_X5_66 (k_X5_in q p1 0 3 M) rfl ⟨by decide, by decide⟩ ⟨by decide, by decide⟩ rfl (Nat.le_of_ble_eq_true rfl) ?_
  refine zg_st (pc' := 7) (L' := [some (.inr 0), some (.inl p1), some (.inl p2)]) (S' := [.inl (bI ((f_X5_in p1 0 3))), .inr 0]) (M' := M) rfl rfl rfl rfl ?_
  refine zg_ifbe (tgt := 14) dX5_nodePlace_7 rfl (fun c7 => ?_) (fun c7 => ?_)
  · refine zg_st (pc' := 10) (L' := [some (.inr 0), some (.inl p1), some (.inl p2)]) (S' := [.inr 0]) (M' := M) rfl rfl rfl rfl ?_
    refine zg_iconst (v := 0) dX5_nodePlace_10 rfl ?_
    refine zg_goto (tgt := 15) dX5_nodePlace_11 rfl ?_
    refine zg_st (pc' := 15) (L' := [some (.inr 0), some (.inl p1), some (.inl p2)]) (S' := [.inl 0, .inr 0]) (M' := M) rfl rfl rfl rfl ?_
    refine zg_cV1 (As := [.inl 0]) (S := []) (v := 0) (N0 := (mup M 0 0 0)) dX5_nodePlace_15 zk_X5_74 (k_X5_refused q 0 M) rfl rfl ⟨by decide, by decide⟩ ⟨by decide, by decide⟩ rfl (Nat.le_of_ble_eq_true rfl) ?_
    refine zg_st (pc' := 18) (L' := [some (.inr 0), some (.inl p1), some (.inl p2)]) (S' := [.inl 0]) (M' := (mup M 0 0 0)) rfl rfl rfl rfl ?_
    refine zg_jt (tgt := 25) dX5_nodePlace_18 rfl (show (0 : Int32) = 0 from by decide) ?_
    refine zg_st (pc' := 25) (L' := [some (.inr 0), some (.inl p1), some (.inl p2)]) (S' := []) (M' := (mup M 0 0 0)) rfl rfl rfl rfl ?_
    refine zg_aload_n (x := 0) dX5_nodePlace_25 rfl ?_
    refine zg_bipush (v := 48) dX5_nodePlace_26 rfl ?_
    refine zg_iload_n (x := p1) dX5_nodePlace_28 rfl ?_
    refine zg_iadd dX5_nodePlace_29 ?_
    refine zg_iload_n (x := p2) dX5_nodePlace_30 rfl ?_
    refine zg_iconst (v := 2) dX5_nodePlace_31 rfl ?_
    refine zg_cVIM (As := [.inl (48 + p1), .inl p2, .inl 2]) (S := []) dX5_nodePlace_32 zk_X5_172 (k_X5_placeOf q (48 + p1) p2 2 (mup M 0 0 0) (z_f53 c7)) rfl rfl ⟨by decide, by decide⟩ ⟨by decide, by decide⟩ rfl (Nat.le_of_ble_eq_true rfl) (fun q1 e_q1 => ?_)
    try dsimp only
    refine zg_st (pc' := 35) (L' := [some (.inr 0), some (.inl p1), some (.inl p2)]) (S' := [.inl q1.1]) (M' := q1.2) rfl rfl rfl rfl ?_
    exact zg_iret dX5_nodePlace_35 rfl rfl ⟨by decide, by decide⟩ rfl
  · refine zg_st (pc' := 14) (L' := [some (.inr 0), some (.inl p1), some (.inl p2)]) (S' := [.inr 0]) (M' := M) rfl rfl rfl rfl ?_
    refine zg_iconst (v := 1) dX5_nodePlace_14 rfl ?_
    refine zg_cV1 (As := [.inl 1]) (S := []) (v := 1) (N0 := (mup M 0 0 1)) dX5_nodePlace_15 zk_X5_74 (k_X5_refused q 1 M) rfl rfl ⟨by decide, by decide⟩ ⟨by decide, by decide⟩ rfl (Nat.le_of_ble_eq_true rfl) ?_
    refine zg_st (pc' := 18) (L' := [some (.inr 0), some (.inl p1), some (.inl p2)]) (S' := [.inl 1]) (M' := (mup M 0 0 1)) rfl rfl rfl rfl ?_
    refine zg_jf (tgt := 25) dX5_nodePlace_18 rfl (show ¬ ((1 : Int32) = 0) from by decide) ?_
    refine zg_st (pc' := 21) (L' := [some (.inr 0), some (.inl p1), some (.inl p2)]) (S' := []) (M' := (mup M 0 0 1)) rfl rfl rfl rfl ?_
    refine zg_iconst (v := 0) dX5_nodePlace_21 rfl ?_
    refine zg_goto (tgt := 35) dX5_nodePlace_22 rfl ?_
    refine zg_st (pc' := 35) (L' := [some (.inr 0), some (.inl p1), some (.inl p2)]) (S' := [.inl 0]) (M' := (mup M 0 0 1)) rfl rfl rfl rfl ?_
    exact zg_iret dX5_nodePlace_35 rfl rfl ⟨by decide, by decide⟩ rfl
theorem dX5_rootPlace_0 : decode cX5_rootPlace 0 = .ok (.aload_n 0, 1) := by decide +kernel
theorem dX5_rootPlace_1 : decode cX5_rootPlace 1 = .ok (.bipush 52, 2) := by decide +kernel
theorem dX5_rootPlace_3 : decode cX5_rootPlace 3 = .ok (.iload_n 1, 1) := by decide +kernel
theorem dX5_rootPlace_4 : decode cX5_rootPlace 4 = .ok (.iconst 1, 1) := by decide +kernel
theorem dX5_rootPlace_5 : decode cX5_rootPlace 5 = .ok (.invokevirtual 172, 3) := by decide +kernel
theorem dX5_rootPlace_8 : decode cX5_rootPlace 8 = .ok (.ireturn, 1) := by decide +kernel
def f_X5_rootPlace (p1 : Int32) (M : Mem) : (Int32 × Mem) :=
  zlet (f_X5_placeOf 52 p1 1 M) (fun q1 =>
  (q1.1, q1.2))
set_option maxRecDepth 100000 in
set_option maxHeartbeats 4000000 in
theorem k_X5_rootPlace (q : ZQ) (p1 : Int32) (M : Mem) : Zc (zgM q) mX5_rootPlace 0 0 [.inr 0, .inl p1] M (wIM (f_X5_rootPlace p1 M)) := by
  refine Zc.of (by decide) zi_X5_rootPlace.1 (Nat.le_of_ble_eq_true rfl) rfl ?_
  show Zg _ _ _ _ _ _ (zlet (f_X5_rootPlace p1 M) wIM) _ _ _ _
  unfold f_X5_rootPlace
  refine zg_aload_n (x := 0) dX5_rootPlace_0 rfl ?_
  refine zg_bipush (v := 52) dX5_rootPlace_1 rfl ?_
  refine zg_iload_n (x := p1) dX5_rootPlace_3 rfl ?_
  refine zg_iconst (v := 1) dX5_rootPlace_4 rfl ?_
  refine zg_cVIM (As := [.inl 52, .inl p1, .inl 1]) (S := []) dX5_rootPlace_5 zk_X5_172 (k_X5_placeOf q 52 p1 1 M z_52) rfl rfl ⟨by decide, by decide⟩ ⟨by decide, by decide⟩ rfl (Nat.le_of_ble_eq_true rfl) (fun q1 e_q1 => ?_)
  try dsimp only
  refine zg_st (pc' := 8) (L' := [some (.inr 0), some (.inl p1)]) (S' := [.inl q1.1]) (M' := q1.2) rfl rfl rfl rfl ?_
  exact zg_iret dX5_rootPlace_8 rfl rfl ⟨by decide, by decide⟩ rfl
theorem dX5_birth_0 : decode cX5_birth 0 = .ok (.aload_n 0, 1) := by decide +kernel
theorem dX5_birth_1 : decode cX5_birth 1 = .ok (.iload_n 1, 1) := by decide +kernel
theorem dX5_birth_2 : decode cX5_birth 2 = .ok (.iload_n 2, 1) := by decide +kernel
theorem dX5_birth_3 : decode cX5_birth 3 = .ok (.invokestatic 70, 3) := by decide +kernel
theorem dX5_birth_6 : decode cX5_birth 6 = .ok (.ifCond .eq 7, 3) := by decide +kernel
theorem dX5_birth_9 : decode cX5_birth 9 = .ok (.iconst 0, 1) := by decide +kernel
theorem dX5_birth_10 : decode cX5_birth 10 = .ok (.goto 4, 3) := by decide +kernel
theorem dX5_birth_13 : decode cX5_birth 13 = .ok (.iconst 1, 1) := by decide +kernel
theorem dX5_birth_14 : decode cX5_birth 14 = .ok (.invokevirtual 74, 3) := by decide +kernel
theorem dX5_birth_17 : decode cX5_birth 17 = .ok (.ifCond .eq 7, 3) := by decide +kernel
theorem dX5_birth_20 : decode cX5_birth 20 = .ok (.iconst 0, 1) := by decide +kernel
theorem dX5_birth_21 : decode cX5_birth 21 = .ok (.goto 14, 3) := by decide +kernel
theorem dX5_birth_24 : decode cX5_birth 24 = .ok (.aload_n 0, 1) := by decide +kernel
theorem dX5_birth_25 : decode cX5_birth 25 = .ok (.getfield 29, 3) := by decide +kernel
theorem dX5_birth_28 : decode cX5_birth 28 = .ok (.bipush 12, 2) := by decide +kernel
theorem dX5_birth_30 : decode cX5_birth 30 = .ok (.iload_n 1, 1) := by decide +kernel
theorem dX5_birth_31 : decode cX5_birth 31 = .ok (.imul, 1) := by decide +kernel
theorem dX5_birth_32 : decode cX5_birth 32 = .ok (.iload_n 2, 1) := by decide +kernel
theorem dX5_birth_33 : decode cX5_birth 33 = .ok (.iadd, 1) := by decide +kernel
theorem dX5_birth_34 : decode cX5_birth 34 = .ok (.iaload, 1) := by decide +kernel
theorem dX5_birth_35 : decode cX5_birth 35 = .ok (.ireturn, 1) := by decide +kernel
def f_X5_birth (p1 : Int32) (p2 : Int32) (M : Mem) : (Int32 × Mem) :=
  if (f_X5_isBlock p1 p2) then (((mup M 0 0 0) 6 ((12 * p1) + p2).toNatClampNeg), (mup M 0 0 0))
  else (0, (mup M 0 0 1))
set_option maxRecDepth 100000 in
set_option maxHeartbeats 4000000 in
theorem k_X5_birth (q : ZQ) (p1 : Int32) (p2 : Int32) (M : Mem) : Zc (zgM q) mX5_birth 0 0 [.inr 0, .inl p1, .inl p2] M (wIM (f_X5_birth p1 p2 M)) := by
  refine Zc.of (by decide) zi_X5_birth.1 (Nat.le_of_ble_eq_true rfl) rfl ?_
  show Zg _ _ _ _ _ _ (zlet (f_X5_birth p1 p2 M) wIM) _ _ _ _
  unfold f_X5_birth
  refine zg_aload_n (x := 0) dX5_birth_0 rfl ?_
  refine zg_iload_n (x := p1) dX5_birth_1 rfl ?_
  refine zg_iload_n (x := p2) dX5_birth_2 rfl ?_
  refine zg_cS1 (As := [.inl p1, .inl p2]) (S := [.inr 0]) (v := bI ((f_X5_isBlock p1 p2))) dX5_birth_3 zk_X5_70 (k_X5_isBlock q p1 p2 M) rfl ⟨by decide, by decide⟩ ⟨by decide, by decide⟩ rfl (Nat.le_of_ble_eq_true rfl) ?_
  refine zg_st (pc' := 6) (L' := [some (.inr 0), some (.inl p1), some (.inl p2)]) (S' := [.inl (bI ((f_X5_isBlock p1 p2))), .inr 0]) (M' := M) rfl rfl rfl rfl ?_
  refine zg_ifbe (tgt := 13) dX5_birth_6 rfl (fun c6 => ?_) (fun c6 => ?_)
  · refine zg_st (pc' := 9) (L' := [some (.inr 0), some (.inl p1), some (.inl p2)]) (S' := [.inr 0]) (M' := M) rfl rfl rfl rfl ?_
    refine zg_iconst (v := 0) dX5_birth_9 rfl ?_
    refine zg_goto (tgt := 14) dX5_birth_10 rfl ?_
    refine zg_st (pc' := 14) (L' := [some (.inr 0), some (.inl p1), some (.inl p2)]) (S' := [.inl 0, .inr 0]) (M' := M) rfl rfl rfl rfl ?_
    refine zg_cV1 (As := [.inl 0]) (S := []) (v := 0) (N0 := (mup M 0 0 0)) dX5_birth_14 zk_X5_74 (k_X5_refused q 0 M) rfl rfl ⟨by decide, by decide⟩ ⟨by decide, by decide⟩ rfl (Nat.le_of_ble_eq_true rfl) ?_
    refine zg_st (pc' := 17) (L' := [some (.inr 0), some (.inl p1), some (.inl p2)]) (S' := [.inl 0]) (M' := (mup M 0 0 0)) rfl rfl rfl rfl ?_
    refine zg_jt (tgt := 24) dX5_birth_17 rfl (show (0 : Int32) = 0 from by decide) ?_
    refine zg_st (pc' := 24) (L' := [some (.inr 0), some (.inl p1), some (.inl p2)]) (S' := []) (M' := (mup M 0 0 0)) rfl rfl rfl rfl ?_
    refine zg_aload_n (x := 0) dX5_birth_24 rfl ?_
    refine zg_getf (v := .inr 6) dX5_birth_25 zf_X5_29 rfl rfl rfl ?_
    refine zg_bipush (v := 12) dX5_birth_28 rfl ?_
    refine zg_iload_n (x := p1) dX5_birth_30 rfl ?_
    refine zg_imul dX5_birth_31 ?_
    refine zg_iload_n (x := p2) dX5_birth_32 rfl ?_
    refine zg_iadd dX5_birth_33 ?_
    refine zg_iald dX5_birth_34 rfl (z_b53 c6) ?_
    exact zg_iret dX5_birth_35 rfl rfl ⟨by decide, by decide⟩ rfl
  · refine zg_st (pc' := 13) (L' := [some (.inr 0), some (.inl p1), some (.inl p2)]) (S' := [.inr 0]) (M' := M) rfl rfl rfl rfl ?_
    refine zg_iconst (v := 1) dX5_birth_13 rfl ?_
    refine zg_cV1 (As := [.inl 1]) (S := []) (v := 1) (N0 := (mup M 0 0 1)) dX5_birth_14 zk_X5_74 (k_X5_refused q 1 M) rfl rfl ⟨by decide, by decide⟩ ⟨by decide, by decide⟩ rfl (Nat.le_of_ble_eq_true rfl) ?_
    refine zg_st (pc' := 17) (L' := [some (.inr 0), some (.inl p1), some (.inl p2)]) (S' := [.inl 1]) (M' := (mup M 0 0 1)) rfl rfl rfl rfl ?_
    refine zg_jf (tgt := 24) dX5_birth_17 rfl (show ¬ ((1 : Int32) = 0) from by decide) ?_
    refine zg_st (pc' := 20) (L' := [some (.inr 0), some (.inl p1), some (.inl p2)]) (S' := []) (M' := (mup M 0 0 1)) rfl rfl rfl rfl ?_
    refine zg_iconst (v := 0) dX5_birth_20 rfl ?_
    refine zg_goto (tgt := 35) dX5_birth_21 rfl ?_
    refine zg_st (pc' := 35) (L' := [some (.inr 0), some (.inl p1), some (.inl p2)]) (S' := [.inl 0]) (M' := (mup M 0 0 1)) rfl rfl rfl rfl ?_
    exact zg_iret dX5_birth_35 rfl rfl ⟨by decide, by decide⟩ rfl
theorem dX5_checksum_0 : decode cX5_checksum 0 = .ok (.aload_n 0, 1) := by decide +kernel
theorem dX5_checksum_1 : decode cX5_checksum 1 = .ok (.iload_n 1, 1) := by decide +kernel
theorem dX5_checksum_2 : decode cX5_checksum 2 = .ok (.iconst 0, 1) := by decide +kernel
theorem dX5_checksum_3 : decode cX5_checksum 3 = .ok (.iconst 3, 1) := by decide +kernel
theorem dX5_checksum_4 : decode cX5_checksum 4 = .ok (.invokestatic 66, 3) := by decide +kernel
theorem dX5_checksum_7 : decode cX5_checksum 7 = .ok (.ifCond .eq 7, 3) := by decide +kernel
theorem dX5_checksum_10 : decode cX5_checksum 10 = .ok (.iconst 0, 1) := by decide +kernel
theorem dX5_checksum_11 : decode cX5_checksum 11 = .ok (.goto 4, 3) := by decide +kernel
theorem dX5_checksum_14 : decode cX5_checksum 14 = .ok (.iconst 1, 1) := by decide +kernel
theorem dX5_checksum_15 : decode cX5_checksum 15 = .ok (.invokevirtual 74, 3) := by decide +kernel
theorem dX5_checksum_18 : decode cX5_checksum 18 = .ok (.ifCond .eq 7, 3) := by decide +kernel
theorem dX5_checksum_21 : decode cX5_checksum 21 = .ok (.iconst 0, 1) := by decide +kernel
theorem dX5_checksum_22 : decode cX5_checksum 22 = .ok (.goto 12, 3) := by decide +kernel
theorem dX5_checksum_25 : decode cX5_checksum 25 = .ok (.aload_n 0, 1) := by decide +kernel
theorem dX5_checksum_26 : decode cX5_checksum 26 = .ok (.getfield 32, 3) := by decide +kernel
theorem dX5_checksum_29 : decode cX5_checksum 29 = .ok (.bipush 48, 2) := by decide +kernel
theorem dX5_checksum_31 : decode cX5_checksum 31 = .ok (.iload_n 1, 1) := by decide +kernel
theorem dX5_checksum_32 : decode cX5_checksum 32 = .ok (.iadd, 1) := by decide +kernel
theorem dX5_checksum_33 : decode cX5_checksum 33 = .ok (.iaload, 1) := by decide +kernel
theorem dX5_checksum_34 : decode cX5_checksum 34 = .ok (.ireturn, 1) := by decide +kernel
def f_X5_checksum (p1 : Int32) (M : Mem) : (Int32 × Mem) :=
  if (f_X5_in p1 0 3) then (((mup M 0 0 0) 7 (48 + p1).toNatClampNeg), (mup M 0 0 0))
  else (0, (mup M 0 0 1))
set_option maxRecDepth 100000 in
set_option maxHeartbeats 4000000 in
theorem k_X5_checksum (q : ZQ) (p1 : Int32) (M : Mem) : Zc (zgM q) mX5_checksum 0 0 [.inr 0, .inl p1] M (wIM (f_X5_checksum p1 M)) := by
  refine Zc.of (by decide) zi_X5_checksum.1 (Nat.le_of_ble_eq_true rfl) rfl ?_
  show Zg _ _ _ _ _ _ (zlet (f_X5_checksum p1 M) wIM) _ _ _ _
  unfold f_X5_checksum
  refine zg_aload_n (x := 0) dX5_checksum_0 rfl ?_
  refine zg_iload_n (x := p1) dX5_checksum_1 rfl ?_
  refine zg_iconst (v := 0) dX5_checksum_2 rfl ?_
  refine zg_iconst (v := 3) dX5_checksum_3 rfl ?_
  refine zg_cS1 (As := [.inl p1, .inl 0, .inl 3]) (S := [.inr 0]) (v := bI ((f_X5_in p1 0 3))) dX5_checksum_4 zk_X5_66 (k_X5_in q p1 0 3 M) rfl ⟨by decide, by decide⟩ ⟨by decide, by decide⟩ rfl (Nat.le_of_ble_eq_true rfl) ?_
  refine zg_st (pc' := 7) (L' := [some (.inr 0), some (.inl p1)]) (S' := [.inl (bI ((f_X5_in p1 0 3))), .inr 0]) (M' := M) rfl rfl rfl rfl ?_
  refine zg_ifbe (tgt := 14) dX5_checksum_7 rfl (fun c7 => ?_) (fun c7 => ?_)
  · refine zg_st (pc' := 10) (L' := [some (.inr 0), some (.inl p1)]) (S' := [.inr 0]) (M' := M) rfl rfl rfl rfl ?_
    refine zg_iconst (v := 0) dX5_checksum_10 rfl ?_
    refine zg_goto (tgt := 15) dX5_checksum_11 rfl ?_
    refine zg_st (pc' := 15) (L' := [some (.inr 0), some (.inl p1)]) (S' := [.inl 0, .inr 0]) (M' := M) rfl rfl rfl rfl ?_
    refine zg_cV1 (As := [.inl 0]) (S := []) (v := 0) (N0 := (mup M 0 0 0)) dX5_checksum_15 zk_X5_74 (k_X5_refused q 0 M) rfl rfl ⟨by decide, by decide⟩ ⟨by decide, by decide⟩ rfl (Nat.le_of_ble_eq_true rfl) ?_
    refine zg_st (pc' := 18) (L' := [some (.inr 0), some (.inl p1)]) (S' := [.inl 0]) (M' := (mup M 0 0 0)) rfl rfl rfl rfl ?_
    refine zg_jt (tgt := 25) dX5_checksum_18 rfl (show (0 : Int32) = 0 from by decide) ?_
    refine zg_st (pc' := 25) (L' := [some (.inr 0), some (.inl p1)]) (S' := []) (M' := (mup M 0 0 0)) rfl rfl rfl rfl ?_
    refine zg_aload_n (x := 0) dX5_checksum_25 rfl ?_
    refine zg_getf (v := .inr 7) dX5_checksum_26 zf_X5_32 rfl rfl rfl ?_
    refine zg_bipush (v := 48) dX5_checksum_29 rfl ?_
    refine zg_iload_n (x := p1) dX5_checksum_31 rfl ?_
    refine zg_iadd dX5_checksum_32 ?_
    refine zg_iald dX5_checksum_33 rfl (z_f53 c7) ?_
    exact zg_iret dX5_checksum_34 rfl rfl ⟨by decide, by decide⟩ rfl
  · refine zg_st (pc' := 14) (L' := [some (.inr 0), some (.inl p1)]) (S' := [.inr 0]) (M' := M) rfl rfl rfl rfl ?_
    refine zg_iconst (v := 1) dX5_checksum_14 rfl ?_
    refine zg_cV1 (As := [.inl 1]) (S := []) (v := 1) (N0 := (mup M 0 0 1)) dX5_checksum_15 zk_X5_74 (k_X5_refused q 1 M) rfl rfl ⟨by decide, by decide⟩ ⟨by decide, by decide⟩ rfl (Nat.le_of_ble_eq_true rfl) ?_
    refine zg_st (pc' := 18) (L' := [some (.inr 0), some (.inl p1)]) (S' := [.inl 1]) (M' := (mup M 0 0 1)) rfl rfl rfl rfl ?_
    refine zg_jf (tgt := 25) dX5_checksum_18 rfl (show ¬ ((1 : Int32) = 0) from by decide) ?_
    refine zg_st (pc' := 21) (L' := [some (.inr 0), some (.inl p1)]) (S' := []) (M' := (mup M 0 0 1)) rfl rfl rfl rfl ?_
    refine zg_iconst (v := 0) dX5_checksum_21 rfl ?_
    refine zg_goto (tgt := 34) dX5_checksum_22 rfl ?_
    refine zg_st (pc' := 34) (L' := [some (.inr 0), some (.inl p1)]) (S' := [.inl 0]) (M' := (mup M 0 0 1)) rfl rfl rfl rfl ?_
    exact zg_iret dX5_checksum_34 rfl rfl ⟨by decide, by decide⟩ rfl
theorem dX5_rootChecksum_0 : decode cX5_rootChecksum 0 = .ok (.aload_n 0, 1) := by decide +kernel
theorem dX5_rootChecksum_1 : decode cX5_rootChecksum 1 = .ok (.aload_n 0, 1) := by decide +kernel
theorem dX5_rootChecksum_2 : decode cX5_rootChecksum 2 = .ok (.getfield 32, 3) := by decide +kernel
theorem dX5_rootChecksum_5 : decode cX5_rootChecksum 5 = .ok (.bipush 52, 2) := by decide +kernel
theorem dX5_rootChecksum_7 : decode cX5_rootChecksum 7 = .ok (.iaload, 1) := by decide +kernel
theorem dX5_rootChecksum_8 : decode cX5_rootChecksum 8 = .ok (.invokevirtual 149, 3) := by decide +kernel
theorem dX5_rootChecksum_11 : decode cX5_rootChecksum 11 = .ok (.ireturn, 1) := by decide +kernel
def f_X5_rootChecksum (M : Mem) : (Int32 × Mem) :=
  ((M 7 (52 : Int32).toNatClampNeg), (mup M 0 0 0))
set_option maxRecDepth 100000 in
set_option maxHeartbeats 4000000 in
theorem k_X5_rootChecksum (q : ZQ) (M : Mem) : Zc (zgM q) mX5_rootChecksum 0 0 [.inr 0] M (wIM (f_X5_rootChecksum M)) := by
  refine Zc.of (by decide) zi_X5_rootChecksum.1 (Nat.le_of_ble_eq_true rfl) rfl ?_
  show Zg _ _ _ _ _ _ (zlet (f_X5_rootChecksum M) wIM) _ _ _ _
  unfold f_X5_rootChecksum
  refine zg_aload_n (x := 0) dX5_rootChecksum_0 rfl ?_
  refine zg_aload_n (x := 0) dX5_rootChecksum_1 rfl ?_
  refine zg_getf (v := .inr 7) dX5_rootChecksum_2 zf_X5_32 rfl rfl rfl ?_
  refine zg_bipush (v := 52) dX5_rootChecksum_5 rfl ?_
  refine zg_iald dX5_rootChecksum_7 rfl z_52 ?_
  refine zg_cV1 (As := [.inl (M 7 (52 : Int32).toNatClampNeg)]) (S := []) (v := (M 7 (52 : Int32).toNatClampNeg)) (N0 := (mup M 0 0 0)) dX5_rootChecksum_8 zk_X5_149 (k_X5_fine q (M 7 (52 : Int32).toNatClampNeg) M) rfl rfl ⟨by decide, by decide⟩ ⟨by decide, by decide⟩ rfl (Nat.le_of_ble_eq_true rfl) ?_
  refine zg_st (pc' := 11) (L' := [some (.inr 0)]) (S' := [.inl (M 7 (52 : Int32).toNatClampNeg)]) (M' := (mup M 0 0 0)) rfl rfl rfl rfl ?_
  exact zg_iret dX5_rootChecksum_11 rfl rfl ⟨by decide, by decide⟩ rfl
