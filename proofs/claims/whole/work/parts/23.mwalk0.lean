theorem dX5_write_0 : decode cX5_write 0 = .ok (.aload_n 0, 1) := by decide +kernel
theorem dX5_write_1 : decode cX5_write 1 = .ok (.iload_n 1, 1) := by decide +kernel
theorem dX5_write_2 : decode cX5_write 2 = .ok (.iload_n 2, 1) := by decide +kernel
theorem dX5_write_3 : decode cX5_write 3 = .ok (.invokestatic 70, 3) := by decide +kernel
theorem dX5_write_6 : decode cX5_write 6 = .ok (.ifCond .eq 18, 3) := by decide +kernel
theorem dX5_write_9 : decode cX5_write 9 = .ok (.iload_n 3, 1) := by decide +kernel
theorem dX5_write_10 : decode cX5_write 10 = .ok (.iconst 1, 1) := by decide +kernel
theorem dX5_write_11 : decode cX5_write 11 = .ok (.sipush 9999, 3) := by decide +kernel
theorem dX5_write_14 : decode cX5_write 14 = .ok (.invokestatic 66, 3) := by decide +kernel
theorem dX5_write_17 : decode cX5_write 17 = .ok (.ifCond .eq 7, 3) := by decide +kernel
theorem dX5_write_20 : decode cX5_write 20 = .ok (.iconst 0, 1) := by decide +kernel
theorem dX5_write_21 : decode cX5_write 21 = .ok (.goto 4, 3) := by decide +kernel
theorem dX5_write_24 : decode cX5_write 24 = .ok (.iconst 1, 1) := by decide +kernel
theorem dX5_write_25 : decode cX5_write 25 = .ok (.invokevirtual 74, 3) := by decide +kernel
theorem dX5_write_28 : decode cX5_write 28 = .ok (.ifCond .eq 5, 3) := by decide +kernel
theorem dX5_write_31 : decode cX5_write 31 = .ok (.iconst 0, 1) := by decide +kernel
theorem dX5_write_32 : decode cX5_write 32 = .ok (.ireturn, 1) := by decide +kernel
theorem dX5_write_33 : decode cX5_write 33 = .ok (.aload_n 0, 1) := by decide +kernel
theorem dX5_write_34 : decode cX5_write 34 = .ok (.bipush 12, 2) := by decide +kernel
theorem dX5_write_36 : decode cX5_write 36 = .ok (.iload_n 1, 1) := by decide +kernel
theorem dX5_write_37 : decode cX5_write 37 = .ok (.imul, 1) := by decide +kernel
theorem dX5_write_38 : decode cX5_write 38 = .ok (.iload_n 2, 1) := by decide +kernel
theorem dX5_write_39 : decode cX5_write 39 = .ok (.iadd, 1) := by decide +kernel
theorem dX5_write_40 : decode cX5_write 40 = .ok (.invokevirtual 78, 3) := by decide +kernel
theorem dX5_write_43 : decode cX5_write 43 = .ok (.istore 4, 2) := by decide +kernel
theorem dX5_write_45 : decode cX5_write 45 = .ok (.aload_n 0, 1) := by decide +kernel
theorem dX5_write_46 : decode cX5_write 46 = .ok (.getfield 20, 3) := by decide +kernel
theorem dX5_write_49 : decode cX5_write 49 = .ok (.bipush 12, 2) := by decide +kernel
theorem dX5_write_51 : decode cX5_write 51 = .ok (.iload_n 1, 1) := by decide +kernel
theorem dX5_write_52 : decode cX5_write 52 = .ok (.imul, 1) := by decide +kernel
theorem dX5_write_53 : decode cX5_write 53 = .ok (.iload_n 2, 1) := by decide +kernel
theorem dX5_write_54 : decode cX5_write 54 = .ok (.iadd, 1) := by decide +kernel
theorem dX5_write_55 : decode cX5_write 55 = .ok (.iload_n 3, 1) := by decide +kernel
theorem dX5_write_56 : decode cX5_write 56 = .ok (.iastore, 1) := by decide +kernel
theorem dX5_write_57 : decode cX5_write 57 = .ok (.iload 4, 2) := by decide +kernel
theorem dX5_write_59 : decode cX5_write 59 = .ok (.ireturn, 1) := by decide +kernel
def f_X5_write (p1 : Int32) (p2 : Int32) (p3 : Int32) (M : Mem) : (Int32 × Mem) :=
  if (f_X5_isBlock p1 p2) then if (f_X5_in p3 1 9999) then ((f_X5_now ((12 * p1) + p2) (mup M 0 0 0)), (mup (mup M 0 0 0) 3 ((12 * p1) + p2).toNatClampNeg p3))
    else (0, (mup M 0 0 1))
  else (0, (mup M 0 0 1))
set_option maxRecDepth 100000 in
set_option maxHeartbeats 4000000 in
theorem k_X5_write (q : ZQ) (p1 : Int32) (p2 : Int32) (p3 : Int32) (M : Mem) : Zc (zgM q) mX5_write 0 0 [.inr 0, .inl p1, .inl p2, .inl p3] M (wIM (f_X5_write p1 p2 p3 M)) := by
  refine Zc.of (by decide) zi_X5_write.1 (Nat.le_of_ble_eq_true rfl) rfl ?_
  show Zg _ _ _ _ _ _ (zlet (f_X5_write p1 p2 p3 M) wIM) _ _ _ _
  unfold f_X5_write
  refine zg_aload_n (x := 0) dX5_write_0 rfl ?_
  refine zg_iload_n (x := p1) dX5_write_1 rfl ?_
  refine zg_iload_n (x := p2) dX5_write_2 rfl ?_
  refine zg_cS1 (As := [.inl p1, .inl p2]) (S := [.inr 0]) (v := bI ((f_X5_isBlock p1 p2))) dX5_write_3 zk_X5_70 (k_X5_isBlock q p1 p2 M) rfl ⟨by decide, by decide⟩ ⟨by decide, by decide⟩ rfl (Nat.le_of_ble_eq_true rfl) ?_
  refine zg_st (pc' := 6) (L' := [some (.inr 0), some (.inl p1), some (.inl p2), some (.inl p3), none]) (S' := [.inl (bI ((f_X5_isBlock p1 p2))), .inr 0]) (M' := M) rfl rfl rfl rfl ?_
  refine zg_ifbe (tgt := 24) dX5_write_6 rfl (fun c6 => ?_) (fun c6 => ?_)
  · refine zg_st (pc' := 9) (L' := [some (.inr 0), some (.inl p1), some (.inl p2), some (.inl p3), none]) (S' := [.inr 0]) (M' := M) rfl rfl rfl rfl ?_
    refine zg_iload_n (x := p3) dX5_write_9 rfl ?_
    refine zg_iconst (v := 1) dX5_write_10 rfl ?_
    refine zg_sipush (v := 9999) dX5_write_11 rfl ?_
    refine zg_cS1 (As := [.inl p3, .inl 1, .inl 9999]) (S := [.inr 0]) (v := bI ((f_X5_in p3 1 9999))) dX5_write_14 zk_X5_66 (k_X5_in q p3 1 9999 M) rfl ⟨by decide, by decide⟩ ⟨by decide, by decide⟩ rfl (Nat.le_of_ble_eq_true rfl) ?_
    refine zg_st (pc' := 17) (L' := [some (.inr 0), some (.inl p1), some (.inl p2), some (.inl p3), none]) (S' := [.inl (bI ((f_X5_in p3 1 9999))), .inr 0]) (M' := M) rfl rfl rfl rfl ?_
    refine zg_ifbe (tgt := 24) dX5_write_17 rfl (fun c17 => ?_) (fun c17 => ?_)
    · refine zg_st (pc' := 20) (L' := [some (.inr 0), some (.inl p1), some (.inl p2), some (.inl p3), none]) (S' := [.inr 0]) (M' := M) rfl rfl rfl rfl ?_
      refine zg_iconst (v := 0) dX5_write_20 rfl ?_
      refine zg_goto (tgt := 25) dX5_write_21 rfl ?_
      refine zg_st (pc' := 25) (L' := [some (.inr 0), some (.inl p1), some (.inl p2), some (.inl p3), none]) (S' := [.inl 0, .inr 0]) (M' := M) rfl rfl rfl rfl ?_
      refine zg_cV1 (As := [.inl 0]) (S := []) (v := 0) (N0 := (mup M 0 0 0)) dX5_write_25 zk_X5_74 (k_X5_refused q 0 M) rfl rfl ⟨by decide, by decide⟩ ⟨by decide, by decide⟩ rfl (Nat.le_of_ble_eq_true rfl) ?_
      refine zg_st (pc' := 28) (L' := [some (.inr 0), some (.inl p1), some (.inl p2), some (.inl p3), none]) (S' := [.inl 0]) (M' := (mup M 0 0 0)) rfl rfl rfl rfl ?_
      refine zg_jt (tgt := 33) dX5_write_28 rfl (show (0 : Int32) = 0 from by decide) ?_
      refine zg_st (pc' := 33) (L' := [some (.inr 0), some (.inl p1), some (.inl p2), some (.inl p3), none]) (S' := []) (M' := (mup M 0 0 0)) rfl rfl rfl rfl ?_
      refine zg_aload_n (x := 0) dX5_write_33 rfl ?_
      refine zg_bipush (v := 12) dX5_write_34 rfl ?_
      refine zg_iload_n (x := p1) dX5_write_36 rfl ?_
      refine zg_imul dX5_write_37 ?_
      refine zg_iload_n (x := p2) dX5_write_38 rfl ?_
      refine zg_iadd dX5_write_39 ?_
      refine zg_cV1 (As := [.inl ((12 * p1) + p2)]) (S := []) (v := (f_X5_now ((12 * p1) + p2) (mup M 0 0 0))) dX5_write_40 zk_X5_78 (k_X5_now q ((12 * p1) + p2) (mup M 0 0 0) (z_b48 c6)) rfl rfl ⟨by decide, by decide⟩ ⟨by decide, by decide⟩ rfl (Nat.le_of_ble_eq_true rfl) ?_
      refine zg_st (pc' := 43) (L' := [some (.inr 0), some (.inl p1), some (.inl p2), some (.inl p3), none]) (S' := [.inl (f_X5_now ((12 * p1) + p2) (mup M 0 0 0))]) (M' := (mup M 0 0 0)) rfl rfl rfl rfl ?_
      refine zg_istore dX5_write_43 (by decide) ?_
      refine zg_st (pc' := 45) (L' := [some (.inr 0), some (.inl p1), some (.inl p2), some (.inl p3), some (.inl (f_X5_now ((12 * p1) + p2) (mup M 0 0 0)))]) (S' := []) (M' := (mup M 0 0 0)) rfl rfl rfl rfl ?_
      refine zg_aload_n (x := 0) dX5_write_45 rfl ?_
      refine zg_getf (v := .inr 3) dX5_write_46 zf_X5_20 rfl rfl rfl ?_
      refine zg_bipush (v := 12) dX5_write_49 rfl ?_
      refine zg_iload_n (x := p1) dX5_write_51 rfl ?_
      refine zg_imul dX5_write_52 ?_
      refine zg_iload_n (x := p2) dX5_write_53 rfl ?_
      refine zg_iadd dX5_write_54 ?_
      refine zg_iload_n (x := p3) dX5_write_55 rfl ?_
      refine zg_iast dX5_write_56 rfl (z_b48 c6) ?_
      refine zg_iload (x := (f_X5_now ((12 * p1) + p2) (mup M 0 0 0))) dX5_write_57 rfl ?_
      exact zg_iret dX5_write_59 rfl rfl ⟨by decide, by decide⟩ rfl
    · refine zg_st (pc' := 24) (L' := [some (.inr 0), some (.inl p1), some (.inl p2), some (.inl p3), none]) (S' := [.inr 0]) (M' := M) rfl rfl rfl rfl ?_
      refine zg_iconst (v := 1) dX5_write_24 rfl ?_
      refine zg_cV1 (As := [.inl 1]) (S := []) (v := 1) (N0 := (mup M 0 0 1)) dX5_write_25 zk_X5_74 (k_X5_refused q 1 M) rfl rfl ⟨by decide, by decide⟩ ⟨by decide, by decide⟩ rfl (Nat.le_of_ble_eq_true rfl) ?_
      refine zg_st (pc' := 28) (L' := [some (.inr 0), some (.inl p1), some (.inl p2), some (.inl p3), none]) (S' := [.inl 1]) (M' := (mup M 0 0 1)) rfl rfl rfl rfl ?_
      refine zg_jf (tgt := 33) dX5_write_28 rfl (show ¬ ((1 : Int32) = 0) from by decide) ?_
      refine zg_st (pc' := 31) (L' := [some (.inr 0), some (.inl p1), some (.inl p2), some (.inl p3), none]) (S' := []) (M' := (mup M 0 0 1)) rfl rfl rfl rfl ?_
      refine zg_iconst (v := 0) dX5_write_31 rfl ?_
      exact zg_iret dX5_write_32 rfl rfl ⟨by decide, by decide⟩ rfl
  · refine zg_st (pc' := 24) (L' := [some (.inr 0), some (.inl p1), some (.inl p2), some (.inl p3), none]) (S' := [.inr 0]) (M' := M) rfl rfl rfl rfl ?_
    refine zg_iconst (v := 1) dX5_write_24 rfl ?_
    refine zg_cV1 (As := [.inl 1]) (S := []) (v := 1) (N0 := (mup M 0 0 1)) dX5_write_25 zk_X5_74 (k_X5_refused q 1 M) rfl rfl ⟨by decide, by decide⟩ ⟨by decide, by decide⟩ rfl (Nat.le_of_ble_eq_true rfl) ?_
    refine zg_st (pc' := 28) (L' := [some (.inr 0), some (.inl p1), some (.inl p2), some (.inl p3), none]) (S' := [.inl 1]) (M' := (mup M 0 0 1)) rfl rfl rfl rfl ?_
    refine zg_jf (tgt := 33) dX5_write_28 rfl (show ¬ ((1 : Int32) = 0) from by decide) ?_
    refine zg_st (pc' := 31) (L' := [some (.inr 0), some (.inl p1), some (.inl p2), some (.inl p3), none]) (S' := []) (M' := (mup M 0 0 1)) rfl rfl rfl rfl ?_
    refine zg_iconst (v := 0) dX5_write_31 rfl ?_
    exact zg_iret dX5_write_32 rfl rfl ⟨by decide, by decide⟩ rfl
theorem dX5_punch_0 : decode cX5_punch 0 = .ok (.aload_n 0, 1) := by decide +kernel
theorem dX5_punch_1 : decode cX5_punch 1 = .ok (.iload_n 1, 1) := by decide +kernel
theorem dX5_punch_2 : decode cX5_punch 2 = .ok (.iload_n 2, 1) := by decide +kernel
theorem dX5_punch_3 : decode cX5_punch 3 = .ok (.invokestatic 70, 3) := by decide +kernel
theorem dX5_punch_6 : decode cX5_punch 6 = .ok (.ifCond .eq 17, 3) := by decide +kernel
theorem dX5_punch_9 : decode cX5_punch 9 = .ok (.iload_n 3, 1) := by decide +kernel
theorem dX5_punch_10 : decode cX5_punch 10 = .ok (.iload_n 2, 1) := by decide +kernel
theorem dX5_punch_11 : decode cX5_punch 11 = .ok (.bipush 11, 2) := by decide +kernel
theorem dX5_punch_13 : decode cX5_punch 13 = .ok (.invokestatic 66, 3) := by decide +kernel
theorem dX5_punch_16 : decode cX5_punch 16 = .ok (.ifCond .eq 7, 3) := by decide +kernel
theorem dX5_punch_19 : decode cX5_punch 19 = .ok (.iconst 0, 1) := by decide +kernel
theorem dX5_punch_20 : decode cX5_punch 20 = .ok (.goto 4, 3) := by decide +kernel
theorem dX5_punch_23 : decode cX5_punch 23 = .ok (.iconst 1, 1) := by decide +kernel
theorem dX5_punch_24 : decode cX5_punch 24 = .ok (.invokevirtual 74, 3) := by decide +kernel
theorem dX5_punch_27 : decode cX5_punch 27 = .ok (.ifCond .eq 5, 3) := by decide +kernel
theorem dX5_punch_30 : decode cX5_punch 30 = .ok (.iconst 0, 1) := by decide +kernel
theorem dX5_punch_31 : decode cX5_punch 31 = .ok (.ireturn, 1) := by decide +kernel
theorem dX5_punch_32 : decode cX5_punch 32 = .ok (.iconst 0, 1) := by decide +kernel
theorem dX5_punch_33 : decode cX5_punch 33 = .ok (.istore 4, 2) := by decide +kernel
theorem dX5_punch_35 : decode cX5_punch 35 = .ok (.bipush 12, 2) := by decide +kernel
theorem dX5_punch_37 : decode cX5_punch 37 = .ok (.iload_n 1, 1) := by decide +kernel
theorem dX5_punch_38 : decode cX5_punch 38 = .ok (.imul, 1) := by decide +kernel
theorem dX5_punch_39 : decode cX5_punch 39 = .ok (.iload_n 2, 1) := by decide +kernel
theorem dX5_punch_40 : decode cX5_punch 40 = .ok (.iadd, 1) := by decide +kernel
theorem dX5_punch_41 : decode cX5_punch 41 = .ok (.istore 5, 2) := by decide +kernel
theorem dX5_punch_43 : decode cX5_punch 43 = .ok (.iload 5, 2) := by decide +kernel
theorem dX5_punch_45 : decode cX5_punch 45 = .ok (.bipush 12, 2) := by decide +kernel
theorem dX5_punch_47 : decode cX5_punch 47 = .ok (.iload_n 1, 1) := by decide +kernel
theorem dX5_punch_48 : decode cX5_punch 48 = .ok (.imul, 1) := by decide +kernel
theorem dX5_punch_49 : decode cX5_punch 49 = .ok (.iload_n 3, 1) := by decide +kernel
theorem dX5_punch_50 : decode cX5_punch 50 = .ok (.iadd, 1) := by decide +kernel
theorem dX5_punch_51 : decode cX5_punch 51 = .ok (.if_icmp .gt 36, 3) := by decide +kernel
theorem dX5_punch_54 : decode cX5_punch 54 = .ok (.iload 4, 2) := by decide +kernel
theorem dX5_punch_56 : decode cX5_punch 56 = .ok (.aload_n 0, 1) := by decide +kernel
theorem dX5_punch_57 : decode cX5_punch 57 = .ok (.iload 5, 2) := by decide +kernel
theorem dX5_punch_59 : decode cX5_punch 59 = .ok (.invokevirtual 78, 3) := by decide +kernel
theorem dX5_punch_62 : decode cX5_punch 62 = .ok (.ifCond .ne 7, 3) := by decide +kernel
theorem dX5_punch_65 : decode cX5_punch 65 = .ok (.iconst 0, 1) := by decide +kernel
theorem dX5_punch_66 : decode cX5_punch 66 = .ok (.goto 4, 3) := by decide +kernel
theorem dX5_punch_69 : decode cX5_punch 69 = .ok (.iconst 1, 1) := by decide +kernel
theorem dX5_punch_70 : decode cX5_punch 70 = .ok (.iadd, 1) := by decide +kernel
theorem dX5_punch_71 : decode cX5_punch 71 = .ok (.istore 4, 2) := by decide +kernel
theorem dX5_punch_73 : decode cX5_punch 73 = .ok (.aload_n 0, 1) := by decide +kernel
theorem dX5_punch_74 : decode cX5_punch 74 = .ok (.getfield 20, 3) := by decide +kernel
theorem dX5_punch_77 : decode cX5_punch 77 = .ok (.iload 5, 2) := by decide +kernel
theorem dX5_punch_79 : decode cX5_punch 79 = .ok (.iconst 0, 1) := by decide +kernel
theorem dX5_punch_80 : decode cX5_punch 80 = .ok (.iastore, 1) := by decide +kernel
theorem dX5_punch_81 : decode cX5_punch 81 = .ok (.iinc 5 1, 3) := by decide +kernel
theorem dX5_punch_84 : decode cX5_punch 84 = .ok (.goto (-41), 3) := by decide +kernel
theorem dX5_punch_87 : decode cX5_punch 87 = .ok (.iload 4, 2) := by decide +kernel
theorem dX5_punch_89 : decode cX5_punch 89 = .ok (.ireturn, 1) := by decide +kernel
def b_X5_punch_43 (x1 : Int32) (x3 : Int32) (rec : Int32 → Int32 → Mem → Int32 × Int32 × Mem) (v4 : Int32) (v5 : Int32) (N : Mem) : Int32 × Int32 × Mem :=
  if ((12 * x1) + x3) < v5 then (v4, v5, N)
  else if ¬ (f_X5_now v5 N) = 0 then rec (v4 + 1) (v5 + 1) (mup N 3 v5.toNatClampNeg 0)
  else rec (v4 + 0) (v5 + 1) (mup N 3 v5.toNatClampNeg 0)
def l_X5_punch_43 (x1 : Int32) (x3 : Int32) : Nat → Int32 → Int32 → Mem → Int32 × Int32 × Mem
  | 0, v4, v5, N => (v4, v5, N)
  | n + 1, v4, v5, N => b_X5_punch_43 x1 x3 (l_X5_punch_43 x1 x3 n) v4 v5 N
set_option maxRecDepth 100000 in
set_option maxHeartbeats 4000000 in
theorem kl_X5_punch_43 (q : ZQ) (x1 : Int32) (x3 : Int32) (hx1 : (0 ≤ x1.toInt ∧ x1.toInt < 4) ∧ 0 ≤ x3.toInt ∧ x3.toInt < 12) {K : Int32 × Int32 × Mem → ZR} (hx : ∀ e : Int32 × Int32 × Mem, (0 : Int) ≤ e.2.1.toInt → Zg (zgM q) mX5_punch 0 0 0 0 (K e) 87 [some (.inr 0), some (.inl x1), none, some (.inl x3), some (.inl e.1), some (.inl e.2.1)] [] e.2.2) :
    ∀ (n : Nat) (v4 : Int32) (v5 : Int32) (N : Mem), (0 : Int) ≤ v5.toInt → ((((12 * x1) + x3) : Int32).toInt + 1 - (v5 : Int32).toInt).toNat < n → Zg (zgM q) mX5_punch 0 0 0 0 (zlet (l_X5_punch_43 x1 x3 n v4 v5 N) K) 43 [some (.inr 0), some (.inl x1), none, some (.inl x3), some (.inl v4), some (.inl v5)] [] N := by
  intro n
  induction n with
  | zero => intro v4 v5 N hI hm; exact absurd hm (Nat.not_lt_zero _)
  | succ n ih =>
    intro v4 v5 N hI hm
    show Zg _ _ _ _ _ _ (zlet (b_X5_punch_43 x1 x3 (l_X5_punch_43 x1 x3 n) v4 v5 N) K) _ _ _ _
    unfold b_X5_punch_43
    refine zg_iload (x := v5) dX5_punch_43 rfl ?_
    refine zg_bipush (v := 12) dX5_punch_45 rfl ?_
    refine zg_iload_n (x := x1) dX5_punch_47 rfl ?_
    refine zg_imul dX5_punch_48 ?_
    refine zg_iload_n (x := x3) dX5_punch_49 rfl ?_
    refine zg_iadd dX5_punch_50 ?_
    refine zg_icmpz (tgt := 87) dX5_punch_51 rfl rfl (fun c51 => ?_) (fun c51 => ?_)
    · refine zg_st (pc' := 87) (L' := [some (.inr 0), some (.inl x1), none, some (.inl x3), some (.inl v4), some (.inl v5)]) (S' := []) (M' := N) rfl rfl rfl rfl ?_
      refine zg_drop (L' := [some (.inr 0), some (.inl x1), none, some (.inl x3), some (.inl v4), some (.inl v5)]) ⟨rfl, rfl, rfl, rfl, rfl, trivial⟩ ?_
      exact hx (v4, v5, N) hI
    · refine zg_st (pc' := 54) (L' := [some (.inr 0), some (.inl x1), none, some (.inl x3), some (.inl v4), some (.inl v5)]) (S' := []) (M' := N) rfl rfl rfl rfl ?_
      refine zg_iload (x := v4) dX5_punch_54 rfl ?_
      refine zg_aload_n (x := 0) dX5_punch_56 rfl ?_
      refine zg_iload (x := v5) dX5_punch_57 rfl ?_
      refine zg_cV1 (As := [.inl v5]) (S := [.inl v4]) (v := (f_X5_now v5 N)) dX5_punch_59 zk_X5_78 (k_X5_now q v5 N (z_pv c51 hx1 hI)) rfl rfl ⟨by decide, by decide⟩ ⟨by decide, by decide⟩ rfl (Nat.le_of_ble_eq_true rfl) ?_
      refine zg_st (pc' := 62) (L' := [some (.inr 0), some (.inl x1), none, some (.inl x3), some (.inl v4), some (.inl v5)]) (S' := [.inl (f_X5_now v5 N), .inl v4]) (M' := N) rfl rfl rfl rfl ?_
      refine zg_ifz (tgt := 69) dX5_punch_62 rfl rfl (fun c62 => ?_) (fun c62 => ?_)
      · refine zg_st (pc' := 69) (L' := [some (.inr 0), some (.inl x1), none, some (.inl x3), some (.inl v4), some (.inl v5)]) (S' := [.inl v4]) (M' := N) rfl rfl rfl rfl ?_
        refine zg_iconst (v := 1) dX5_punch_69 rfl ?_
        refine zg_iadd dX5_punch_70 ?_
        refine zg_istore dX5_punch_71 (by decide) ?_
        refine zg_st (pc' := 73) (L' := [some (.inr 0), some (.inl x1), none, some (.inl x3), some (.inl (v4 + 1)), some (.inl v5)]) (S' := []) (M' := N) rfl rfl rfl rfl ?_
        refine zg_aload_n (x := 0) dX5_punch_73 rfl ?_
        refine zg_getf (v := .inr 3) dX5_punch_74 zf_X5_20 rfl rfl rfl ?_
        refine zg_iload (x := v5) dX5_punch_77 rfl ?_
        refine zg_iconst (v := 0) dX5_punch_79 rfl ?_
        refine zg_iast dX5_punch_80 rfl (z_pv c51 hx1 hI) ?_
        refine zg_iinc (v := (v5 + 1)) dX5_punch_81 rfl (by decide) rfl ?_
        refine zg_st (pc' := 84) (L' := [some (.inr 0), some (.inl x1), none, some (.inl x3), some (.inl (v4 + 1)), some (.inl (v5 + 1))]) (S' := []) (M' := (mup N 3 v5.toNatClampNeg 0)) rfl rfl rfl rfl ?_
        refine zg_goto (tgt := 43) dX5_punch_84 rfl ?_
        refine zg_st (pc' := 43) (L' := [some (.inr 0), some (.inl x1), none, some (.inl x3), some (.inl (v4 + 1)), some (.inl (v5 + 1))]) (S' := []) (M' := (mup N 3 v5.toNatClampNeg 0)) rfl rfl rfl rfl ?_
        refine zg_drop (L' := [some (.inr 0), some (.inl x1), none, some (.inl x3), some (.inl (v4 + 1)), some (.inl (v5 + 1))]) ⟨rfl, rfl, rfl, rfl, rfl, trivial⟩ ?_
        exact ih (v4 + 1) (v5 + 1) (mup N 3 v5.toNatClampNeg 0) (z_ps c51 (z_pC hx1) hI) (z_upe c51 (z_pC hx1) hm)
      · refine zg_st (pc' := 65) (L' := [some (.inr 0), some (.inl x1), none, some (.inl x3), some (.inl v4), some (.inl v5)]) (S' := [.inl v4]) (M' := N) rfl rfl rfl rfl ?_
        refine zg_iconst (v := 0) dX5_punch_65 rfl ?_
        refine zg_goto (tgt := 70) dX5_punch_66 rfl ?_
        refine zg_st (pc' := 70) (L' := [some (.inr 0), some (.inl x1), none, some (.inl x3), some (.inl v4), some (.inl v5)]) (S' := [.inl 0, .inl v4]) (M' := N) rfl rfl rfl rfl ?_
        refine zg_iadd dX5_punch_70 ?_
        refine zg_istore dX5_punch_71 (by decide) ?_
        refine zg_st (pc' := 73) (L' := [some (.inr 0), some (.inl x1), none, some (.inl x3), some (.inl (v4 + 0)), some (.inl v5)]) (S' := []) (M' := N) rfl rfl rfl rfl ?_
        refine zg_aload_n (x := 0) dX5_punch_73 rfl ?_
        refine zg_getf (v := .inr 3) dX5_punch_74 zf_X5_20 rfl rfl rfl ?_
        refine zg_iload (x := v5) dX5_punch_77 rfl ?_
        refine zg_iconst (v := 0) dX5_punch_79 rfl ?_
        refine zg_iast dX5_punch_80 rfl (z_pv c51 hx1 hI) ?_
        refine zg_iinc (v := (v5 + 1)) dX5_punch_81 rfl (by decide) rfl ?_
        refine zg_st (pc' := 84) (L' := [some (.inr 0), some (.inl x1), none, some (.inl x3), some (.inl (v4 + 0)), some (.inl (v5 + 1))]) (S' := []) (M' := (mup N 3 v5.toNatClampNeg 0)) rfl rfl rfl rfl ?_
        refine zg_goto (tgt := 43) dX5_punch_84 rfl ?_
        refine zg_st (pc' := 43) (L' := [some (.inr 0), some (.inl x1), none, some (.inl x3), some (.inl (v4 + 0)), some (.inl (v5 + 1))]) (S' := []) (M' := (mup N 3 v5.toNatClampNeg 0)) rfl rfl rfl rfl ?_
        refine zg_drop (L' := [some (.inr 0), some (.inl x1), none, some (.inl x3), some (.inl (v4 + 0)), some (.inl (v5 + 1))]) ⟨rfl, rfl, rfl, rfl, rfl, trivial⟩ ?_
        exact ih (v4 + 0) (v5 + 1) (mup N 3 v5.toNatClampNeg 0) (z_ps c51 (z_pC hx1) hI) (z_upe c51 (z_pC hx1) hm)
def f_X5_punch (p1 : Int32) (p2 : Int32) (p3 : Int32) (M : Mem) : (Int32 × Mem) :=
  if (f_X5_isBlock p1 p2) then if (f_X5_in p3 p2 11) then zlet (l_X5_punch_43 p1 p3 (((((12 * p1) + p3) : Int32).toInt + 1 - (((12 * p1) + p2) : Int32).toInt).toNat + 1) 0 ((12 * p1) + p2) (mup M 0 0 0)) (fun s1 =>
      (s1.1, s1.2.2))
    else (0, (mup M 0 0 1))
  else (0, (mup M 0 0 1))
set_option maxRecDepth 100000 in
set_option maxHeartbeats 4000000 in
theorem k_X5_punch (q : ZQ) (p1 : Int32) (p2 : Int32) (p3 : Int32) (M : Mem) : Zc (zgM q) mX5_punch 0 0 [.inr 0, .inl p1, .inl p2, .inl p3] M (wIM (f_X5_punch p1 p2 p3 M)) := by
  refine Zc.of (by decide) zi_X5_punch.1 (Nat.le_of_ble_eq_true rfl) rfl ?_
  show Zg _ _ _ _ _ _ (zlet (f_X5_punch p1 p2 p3 M) wIM) _ _ _ _
  unfold f_X5_punch
  refine zg_aload_n (x := 0) dX5_punch_0 rfl ?_
  refine zg_iload_n (x := p1) dX5_punch_1 rfl ?_
  refine zg_iload_n (x := p2) dX5_punch_2 rfl ?_
  refine zg_cS1 (As := [.inl p1, .inl p2]) (S := [.inr 0]) (v := bI ((f_X5_isBlock p1 p2))) dX5_punch_3 zk_X5_70 (k_X5_isBlock q p1 p2 M) rfl ⟨by decide, by decide⟩ ⟨by decide, by decide⟩ rfl (Nat.le_of_ble_eq_true rfl) ?_
  refine zg_st (pc' := 6) (L' := [some (.inr 0), some (.inl p1), some (.inl p2), some (.inl p3), none, none]) (S' := [.inl (bI ((f_X5_isBlock p1 p2))), .inr 0]) (M' := M) rfl rfl rfl rfl ?_
  refine zg_ifbe (tgt := 23) dX5_punch_6 rfl (fun c6 => ?_) (fun c6 => ?_)
  · refine zg_st (pc' := 9) (L' := [some (.inr 0), some (.inl p1), some (.inl p2), some (.inl p3), none, none]) (S' := [.inr 0]) (M' := M) rfl rfl rfl rfl ?_
    refine zg_iload_n (x := p3) dX5_punch_9 rfl ?_
    refine zg_iload_n (x := p2) dX5_punch_10 rfl ?_
    refine zg_bipush (v := 11) dX5_punch_11 rfl ?_
    refine zg_cS1 (As := [.inl p3, .inl p2, .inl 11]) (S := [.inr 0]) (v := bI ((f_X5_in p3 p2 11))) dX5_punch_13 zk_X5_66 (k_X5_in q p3 p2 11 M) rfl ⟨by decide, by decide⟩ ⟨by decide, by decide⟩ rfl (Nat.le_of_ble_eq_true rfl) ?_
    refine zg_st (pc' := 16) (L' := [some (.inr 0), some (.inl p1), some (.inl p2), some (.inl p3), none, none]) (S' := [.inl (bI ((f_X5_in p3 p2 11))), .inr 0]) (M' := M) rfl rfl rfl rfl ?_
    refine zg_ifbe (tgt := 23) dX5_punch_16 rfl (fun c16 => ?_) (fun c16 => ?_)
    · refine zg_st (pc' := 19) (L' := [some (.inr 0), some (.inl p1), some (.inl p2), some (.inl p3), none, none]) (S' := [.inr 0]) (M' := M) rfl rfl rfl rfl ?_
      refine zg_iconst (v := 0) dX5_punch_19 rfl ?_
      refine zg_goto (tgt := 24) dX5_punch_20 rfl ?_
      refine zg_st (pc' := 24) (L' := [some (.inr 0), some (.inl p1), some (.inl p2), some (.inl p3), none, none]) (S' := [.inl 0, .inr 0]) (M' := M) rfl rfl rfl rfl ?_
      refine zg_cV1 (As := [.inl 0]) (S := []) (v := 0) (N0 := (mup M 0 0 0)) dX5_punch_24 zk_X5_74 (k_X5_refused q 0 M) rfl rfl ⟨by decide, by decide⟩ ⟨by decide, by decide⟩ rfl (Nat.le_of_ble_eq_true rfl) ?_
      refine zg_st (pc' := 27) (L' := [some (.inr 0), some (.inl p1), some (.inl p2), some (.inl p3), none, none]) (S' := [.inl 0]) (M' := (mup M 0 0 0)) rfl rfl rfl rfl ?_
      refine zg_jt (tgt := 32) dX5_punch_27 rfl (show (0 : Int32) = 0 from by decide) ?_
      refine zg_st (pc' := 32) (L' := [some (.inr 0), some (.inl p1), some (.inl p2), some (.inl p3), none, none]) (S' := []) (M' := (mup M 0 0 0)) rfl rfl rfl rfl ?_
      refine zg_iconst (v := 0) dX5_punch_32 rfl ?_
      refine zg_istore dX5_punch_33 (by decide) ?_
      refine zg_st (pc' := 35) (L' := [some (.inr 0), some (.inl p1), some (.inl p2), some (.inl p3), some (.inl 0), none]) (S' := []) (M' := (mup M 0 0 0)) rfl rfl rfl rfl ?_
      refine zg_bipush (v := 12) dX5_punch_35 rfl ?_
      refine zg_iload_n (x := p1) dX5_punch_37 rfl ?_
      refine zg_imul dX5_punch_38 ?_
      refine zg_iload_n (x := p2) dX5_punch_39 rfl ?_
      refine zg_iadd dX5_punch_40 ?_
      refine zg_istore dX5_punch_41 (by decide) ?_
      refine zg_st (pc' := 43) (L' := [some (.inr 0), some (.inl p1), some (.inl p2), some (.inl p3), some (.inl 0), some (.inl ((12 * p1) + p2))]) (S' := []) (M' := (mup M 0 0 0)) rfl rfl rfl rfl ?_
      refine zg_asc ?_
      refine zg_drop (L' := [some (.inr 0), some (.inl p1), none, some (.inl p3), some (.inl 0), some (.inl ((12 * p1) + p2))]) ⟨rfl, rfl, rfl, rfl, rfl, trivial⟩ ?_
      refine kl_X5_punch_43 q p1 p3  (z_punch c6 c16) (fun s1 hI_s1 => ?_) (((((12 * p1) + p3) : Int32).toInt + 1 - (((12 * p1) + p2) : Int32).toInt).toNat + 1) 0 ((12 * p1) + p2) (mup M 0 0 0) (z_pi c6) (Nat.lt_succ_self _)
      try dsimp only [Sum.elim_inr]
      refine zg_st (pc' := 87) (L' := [some (.inr 0), some (.inl p1), none, some (.inl p3), some (.inl s1.1), some (.inl s1.2.1)]) (S' := []) (M' := s1.2.2) rfl rfl rfl rfl ?_
      refine zg_iload (x := s1.1) dX5_punch_87 rfl ?_
      exact zg_iret dX5_punch_89 rfl rfl ⟨by decide, by decide⟩ rfl
    · refine zg_st (pc' := 23) (L' := [some (.inr 0), some (.inl p1), some (.inl p2), some (.inl p3), none, none]) (S' := [.inr 0]) (M' := M) rfl rfl rfl rfl ?_
      refine zg_iconst (v := 1) dX5_punch_23 rfl ?_
      refine zg_cV1 (As := [.inl 1]) (S := []) (v := 1) (N0 := (mup M 0 0 1)) dX5_punch_24 zk_X5_74 (k_X5_refused q 1 M) rfl rfl ⟨by decide, by decide⟩ ⟨by decide, by decide⟩ rfl (Nat.le_of_ble_eq_true rfl) ?_
      refine zg_st (pc' := 27) (L' := [some (.inr 0), some (.inl p1), some (.inl p2), some (.inl p3), none, none]) (S' := [.inl 1]) (M' := (mup M 0 0 1)) rfl rfl rfl rfl ?_
      refine zg_jf (tgt := 32) dX5_punch_27 rfl (show ¬ ((1 : Int32) = 0) from by decide) ?_
      refine zg_st (pc' := 30) (L' := [some (.inr 0), some (.inl p1), some (.inl p2), some (.inl p3), none, none]) (S' := []) (M' := (mup M 0 0 1)) rfl rfl rfl rfl ?_
      refine zg_iconst (v := 0) dX5_punch_30 rfl ?_
      exact zg_iret dX5_punch_31 rfl rfl ⟨by decide, by decide⟩ rfl
  · refine zg_st (pc' := 23) (L' := [some (.inr 0), some (.inl p1), some (.inl p2), some (.inl p3), none, none]) (S' := [.inr 0]) (M' := M) rfl rfl rfl rfl ?_
    refine zg_iconst (v := 1) dX5_punch_23 rfl ?_
    refine zg_cV1 (As := [.inl 1]) (S := []) (v := 1) (N0 := (mup M 0 0 1)) dX5_punch_24 zk_X5_74 (k_X5_refused q 1 M) rfl rfl ⟨by decide, by decide⟩ ⟨by decide, by decide⟩ rfl (Nat.le_of_ble_eq_true rfl) ?_
    refine zg_st (pc' := 27) (L' := [some (.inr 0), some (.inl p1), some (.inl p2), some (.inl p3), none, none]) (S' := [.inl 1]) (M' := (mup M 0 0 1)) rfl rfl rfl rfl ?_
    refine zg_jf (tgt := 32) dX5_punch_27 rfl (show ¬ ((1 : Int32) = 0) from by decide) ?_
    refine zg_st (pc' := 30) (L' := [some (.inr 0), some (.inl p1), some (.inl p2), some (.inl p3), none, none]) (S' := []) (M' := (mup M 0 0 1)) rfl rfl rfl rfl ?_
    refine zg_iconst (v := 0) dX5_punch_30 rfl ?_
    exact zg_iret dX5_punch_31 rfl rfl ⟨by decide, by decide⟩ rfl
theorem dX5_setCopies_0 : decode cX5_setCopies 0 = .ok (.aload_n 0, 1) := by decide +kernel
theorem dX5_setCopies_1 : decode cX5_setCopies 1 = .ok (.iload_n 1, 1) := by decide +kernel
theorem dX5_setCopies_2 : decode cX5_setCopies 2 = .ok (.iconst 0, 1) := by decide +kernel
theorem dX5_setCopies_3 : decode cX5_setCopies 3 = .ok (.iconst 3, 1) := by decide +kernel
theorem dX5_setCopies_4 : decode cX5_setCopies 4 = .ok (.invokestatic 66, 3) := by decide +kernel
theorem dX5_setCopies_7 : decode cX5_setCopies 7 = .ok (.ifCond .eq 16, 3) := by decide +kernel
theorem dX5_setCopies_10 : decode cX5_setCopies 10 = .ok (.iload_n 2, 1) := by decide +kernel
theorem dX5_setCopies_11 : decode cX5_setCopies 11 = .ok (.iconst 1, 1) := by decide +kernel
theorem dX5_setCopies_12 : decode cX5_setCopies 12 = .ok (.iconst 2, 1) := by decide +kernel
theorem dX5_setCopies_13 : decode cX5_setCopies 13 = .ok (.invokestatic 66, 3) := by decide +kernel
theorem dX5_setCopies_16 : decode cX5_setCopies 16 = .ok (.ifCond .eq 7, 3) := by decide +kernel
theorem dX5_setCopies_19 : decode cX5_setCopies 19 = .ok (.iconst 0, 1) := by decide +kernel
theorem dX5_setCopies_20 : decode cX5_setCopies 20 = .ok (.goto 4, 3) := by decide +kernel
theorem dX5_setCopies_23 : decode cX5_setCopies 23 = .ok (.iconst 1, 1) := by decide +kernel
theorem dX5_setCopies_24 : decode cX5_setCopies 24 = .ok (.invokevirtual 74, 3) := by decide +kernel
theorem dX5_setCopies_27 : decode cX5_setCopies 27 = .ok (.ifCond .eq 5, 3) := by decide +kernel
theorem dX5_setCopies_30 : decode cX5_setCopies 30 = .ok (.iconst 0, 1) := by decide +kernel
theorem dX5_setCopies_31 : decode cX5_setCopies 31 = .ok (.ireturn, 1) := by decide +kernel
theorem dX5_setCopies_32 : decode cX5_setCopies 32 = .ok (.aload_n 0, 1) := by decide +kernel
theorem dX5_setCopies_33 : decode cX5_setCopies 33 = .ok (.getfield 13, 3) := by decide +kernel
theorem dX5_setCopies_36 : decode cX5_setCopies 36 = .ok (.iload_n 1, 1) := by decide +kernel
theorem dX5_setCopies_37 : decode cX5_setCopies 37 = .ok (.iaload, 1) := by decide +kernel
theorem dX5_setCopies_38 : decode cX5_setCopies 38 = .ok (.istore_n 3, 1) := by decide +kernel
theorem dX5_setCopies_39 : decode cX5_setCopies 39 = .ok (.aload_n 0, 1) := by decide +kernel
theorem dX5_setCopies_40 : decode cX5_setCopies 40 = .ok (.getfield 13, 3) := by decide +kernel
theorem dX5_setCopies_43 : decode cX5_setCopies 43 = .ok (.iload_n 1, 1) := by decide +kernel
theorem dX5_setCopies_44 : decode cX5_setCopies 44 = .ok (.iload_n 2, 1) := by decide +kernel
theorem dX5_setCopies_45 : decode cX5_setCopies 45 = .ok (.iastore, 1) := by decide +kernel
theorem dX5_setCopies_46 : decode cX5_setCopies 46 = .ok (.iload_n 3, 1) := by decide +kernel
theorem dX5_setCopies_47 : decode cX5_setCopies 47 = .ok (.ireturn, 1) := by decide +kernel
def f_X5_setCopies (p1 : Int32) (p2 : Int32) (M : Mem) : (Int32 × Mem) :=
  if (f_X5_in p1 0 3) then if (f_X5_in p2 1 2) then (((mup M 0 0 0) 1 p1.toNatClampNeg), (mup (mup M 0 0 0) 1 p1.toNatClampNeg p2))
    else (0, (mup M 0 0 1))
  else (0, (mup M 0 0 1))
set_option maxRecDepth 100000 in
set_option maxHeartbeats 4000000 in
theorem k_X5_setCopies (q : ZQ) (p1 : Int32) (p2 : Int32) (M : Mem) : Zc (zgM q) mX5_setCopies 0 0 [.inr 0, .inl p1, .inl p2] M (wIM (f_X5_setCopies p1 p2 M)) := by
  refine Zc.of (by decide) zi_X5_setCopies.1 (Nat.le_of_ble_eq_true rfl) rfl ?_
  show Zg _ _ _ _ _ _ (zlet (f_X5_setCopies p1 p2 M) wIM) _ _ _ _
  unfold f_X5_setCopies
  refine zg_aload_n (x := 0) dX5_setCopies_0 rfl ?_
  refine zg_iload_n (x := p1) dX5_setCopies_1 rfl ?_
  refine zg_iconst (v := 0) dX5_setCopies_2 rfl ?_
  refine zg_iconst (v := 3) dX5_setCopies_3 rfl ?_
  refine zg_cS1 (As := [.inl p1, .inl 0, .inl 3]) (S := [.inr 0]) (v := bI ((f_X5_in p1 0 3))) dX5_setCopies_4 zk_X5_66 (k_X5_in q p1 0 3 M) rfl ⟨by decide, by decide⟩ ⟨by decide, by decide⟩ rfl (Nat.le_of_ble_eq_true rfl) ?_
  refine zg_st (pc' := 7) (L' := [some (.inr 0), some (.inl p1), some (.inl p2), none]) (S' := [.inl (bI ((f_X5_in p1 0 3))), .inr 0]) (M' := M) rfl rfl rfl rfl ?_
  refine zg_ifbe (tgt := 23) dX5_setCopies_7 rfl (fun c7 => ?_) (fun c7 => ?_)
  · refine zg_st (pc' := 10) (L' := [some (.inr 0), some (.inl p1), some (.inl p2), none]) (S' := [.inr 0]) (M' := M) rfl rfl rfl rfl ?_
    refine zg_iload_n (x := p2) dX5_setCopies_10 rfl ?_
    refine zg_iconst (v := 1) dX5_setCopies_11 rfl ?_
    refine zg_iconst (v := 2) dX5_setCopies_12 rfl ?_
    refine zg_cS1 (As := [.inl p2, .inl 1, .inl 2]) (S := [.inr 0]) (v := bI ((f_X5_in p2 1 2))) dX5_setCopies_13 zk_X5_66 (k_X5_in q p2 1 2 M) rfl ⟨by decide, by decide⟩ ⟨by decide, by decide⟩ rfl (Nat.le_of_ble_eq_true rfl) ?_
    refine zg_st (pc' := 16) (L' := [some (.inr 0), some (.inl p1), some (.inl p2), none]) (S' := [.inl (bI ((f_X5_in p2 1 2))), .inr 0]) (M' := M) rfl rfl rfl rfl ?_
    refine zg_ifbe (tgt := 23) dX5_setCopies_16 rfl (fun c16 => ?_) (fun c16 => ?_)
    · refine zg_st (pc' := 19) (L' := [some (.inr 0), some (.inl p1), some (.inl p2), none]) (S' := [.inr 0]) (M' := M) rfl rfl rfl rfl ?_
      refine zg_iconst (v := 0) dX5_setCopies_19 rfl ?_
      refine zg_goto (tgt := 24) dX5_setCopies_20 rfl ?_
      refine zg_st (pc' := 24) (L' := [some (.inr 0), some (.inl p1), some (.inl p2), none]) (S' := [.inl 0, .inr 0]) (M' := M) rfl rfl rfl rfl ?_
      refine zg_cV1 (As := [.inl 0]) (S := []) (v := 0) (N0 := (mup M 0 0 0)) dX5_setCopies_24 zk_X5_74 (k_X5_refused q 0 M) rfl rfl ⟨by decide, by decide⟩ ⟨by decide, by decide⟩ rfl (Nat.le_of_ble_eq_true rfl) ?_
      refine zg_st (pc' := 27) (L' := [some (.inr 0), some (.inl p1), some (.inl p2), none]) (S' := [.inl 0]) (M' := (mup M 0 0 0)) rfl rfl rfl rfl ?_
      refine zg_jt (tgt := 32) dX5_setCopies_27 rfl (show (0 : Int32) = 0 from by decide) ?_
      refine zg_st (pc' := 32) (L' := [some (.inr 0), some (.inl p1), some (.inl p2), none]) (S' := []) (M' := (mup M 0 0 0)) rfl rfl rfl rfl ?_
      refine zg_aload_n (x := 0) dX5_setCopies_32 rfl ?_
      refine zg_getf (v := .inr 1) dX5_setCopies_33 zf_X5_13 rfl rfl rfl ?_
      refine zg_iload_n (x := p1) dX5_setCopies_36 rfl ?_
      refine zg_iald dX5_setCopies_37 rfl (z_f4 c7) ?_
      refine zg_istore_n dX5_setCopies_38 (by decide) ?_
      refine zg_st (pc' := 39) (L' := [some (.inr 0), some (.inl p1), some (.inl p2), some (.inl ((mup M 0 0 0) 1 p1.toNatClampNeg))]) (S' := []) (M' := (mup M 0 0 0)) rfl rfl rfl rfl ?_
      refine zg_aload_n (x := 0) dX5_setCopies_39 rfl ?_
      refine zg_getf (v := .inr 1) dX5_setCopies_40 zf_X5_13 rfl rfl rfl ?_
      refine zg_iload_n (x := p1) dX5_setCopies_43 rfl ?_
      refine zg_iload_n (x := p2) dX5_setCopies_44 rfl ?_
      refine zg_iast dX5_setCopies_45 rfl (z_f4 c7) ?_
      refine zg_iload_n (x := ((mup M 0 0 0) 1 p1.toNatClampNeg)) dX5_setCopies_46 rfl ?_
      exact zg_iret dX5_setCopies_47 rfl rfl ⟨by decide, by decide⟩ rfl
    · refine zg_st (pc' := 23) (L' := [some (.inr 0), some (.inl p1), some (.inl p2), none]) (S' := [.inr 0]) (M' := M) rfl rfl rfl rfl ?_
      refine zg_iconst (v := 1) dX5_setCopies_23 rfl ?_
      refine zg_cV1 (As := [.inl 1]) (S := []) (v := 1) (N0 := (mup M 0 0 1)) dX5_setCopies_24 zk_X5_74 (k_X5_refused q 1 M) rfl rfl ⟨by decide, by decide⟩ ⟨by decide, by decide⟩ rfl (Nat.le_of_ble_eq_true rfl) ?_
      refine zg_st (pc' := 27) (L' := [some (.inr 0), some (.inl p1), some (.inl p2), none]) (S' := [.inl 1]) (M' := (mup M 0 0 1)) rfl rfl rfl rfl ?_
      refine zg_jf (tgt := 32) dX5_setCopies_27 rfl (show ¬ ((1 : Int32) = 0) from by decide) ?_
      refine zg_st (pc' := 30) (L' := [some (.inr 0), some (.inl p1), some (.inl p2), none]) (S' := []) (M' := (mup M 0 0 1)) rfl rfl rfl rfl ?_
      refine zg_iconst (v := 0) dX5_setCopies_30 rfl ?_
      exact zg_iret dX5_setCopies_31 rfl rfl ⟨by decide, by decide⟩ rfl
  · refine zg_st (pc' := 23) (L' := [some (.inr 0), some (.inl p1), some (.inl p2), none]) (S' := [.inr 0]) (M' := M) rfl rfl rfl rfl ?_
    refine zg_iconst (v := 1) dX5_setCopies_23 rfl ?_
    refine zg_cV1 (As := [.inl 1]) (S := []) (v := 1) (N0 := (mup M 0 0 1)) dX5_setCopies_24 zk_X5_74 (k_X5_refused q 1 M) rfl rfl ⟨by decide, by decide⟩ ⟨by decide, by decide⟩ rfl (Nat.le_of_ble_eq_true rfl) ?_
    refine zg_st (pc' := 27) (L' := [some (.inr 0), some (.inl p1), some (.inl p2), none]) (S' := [.inl 1]) (M' := (mup M 0 0 1)) rfl rfl rfl rfl ?_
    refine zg_jf (tgt := 32) dX5_setCopies_27 rfl (show ¬ ((1 : Int32) = 0) from by decide) ?_
    refine zg_st (pc' := 30) (L' := [some (.inr 0), some (.inl p1), some (.inl p2), none]) (S' := []) (M' := (mup M 0 0 1)) rfl rfl rfl rfl ?_
    refine zg_iconst (v := 0) dX5_setCopies_30 rfl ?_
    exact zg_iret dX5_setCopies_31 rfl rfl ⟨by decide, by decide⟩ rfl
theorem dX5_isReadable_0 : decode cX5_isReadable 0 = .ok (.aload_n 0, 1) := by decide +kernel
theorem dX5_isReadable_1 : decode cX5_isReadable 1 = .ok (.aload_n 0, 1) := by decide +kernel
theorem dX5_isReadable_2 : decode cX5_isReadable 2 = .ok (.getfield 23, 3) := by decide +kernel
theorem dX5_isReadable_5 : decode cX5_isReadable 5 = .ok (.iload_n 1, 1) := by decide +kernel
theorem dX5_isReadable_6 : decode cX5_isReadable 6 = .ok (.iaload, 1) := by decide +kernel
theorem dX5_isReadable_7 : decode cX5_isReadable 7 = .ok (.iconst 0, 1) := by decide +kernel
theorem dX5_isReadable_8 : decode cX5_isReadable 8 = .ok (.invokevirtual 82, 3) := by decide +kernel
theorem dX5_isReadable_11 : decode cX5_isReadable 11 = .ok (.ifCond .ne 45, 3) := by decide +kernel
theorem dX5_isReadable_14 : decode cX5_isReadable 14 = .ok (.aload_n 0, 1) := by decide +kernel
theorem dX5_isReadable_15 : decode cX5_isReadable 15 = .ok (.aload_n 0, 1) := by decide +kernel
theorem dX5_isReadable_16 : decode cX5_isReadable 16 = .ok (.getfield 23, 3) := by decide +kernel
theorem dX5_isReadable_19 : decode cX5_isReadable 19 = .ok (.iload_n 1, 1) := by decide +kernel
theorem dX5_isReadable_20 : decode cX5_isReadable 20 = .ok (.iaload, 1) := by decide +kernel
theorem dX5_isReadable_21 : decode cX5_isReadable 21 = .ok (.iconst 1, 1) := by decide +kernel
theorem dX5_isReadable_22 : decode cX5_isReadable 22 = .ok (.invokevirtual 82, 3) := by decide +kernel
theorem dX5_isReadable_25 : decode cX5_isReadable 25 = .ok (.ifCond .ne 31, 3) := by decide +kernel
theorem dX5_isReadable_28 : decode cX5_isReadable 28 = .ok (.aload_n 0, 1) := by decide +kernel
theorem dX5_isReadable_29 : decode cX5_isReadable 29 = .ok (.aload_n 0, 1) := by decide +kernel
theorem dX5_isReadable_30 : decode cX5_isReadable 30 = .ok (.getfield 26, 3) := by decide +kernel
theorem dX5_isReadable_33 : decode cX5_isReadable 33 = .ok (.iload_n 1, 1) := by decide +kernel
theorem dX5_isReadable_34 : decode cX5_isReadable 34 = .ok (.iaload, 1) := by decide +kernel
theorem dX5_isReadable_35 : decode cX5_isReadable 35 = .ok (.iconst 0, 1) := by decide +kernel
theorem dX5_isReadable_36 : decode cX5_isReadable 36 = .ok (.invokevirtual 82, 3) := by decide +kernel
theorem dX5_isReadable_39 : decode cX5_isReadable 39 = .ok (.ifCond .ne 17, 3) := by decide +kernel
theorem dX5_isReadable_42 : decode cX5_isReadable 42 = .ok (.aload_n 0, 1) := by decide +kernel
theorem dX5_isReadable_43 : decode cX5_isReadable 43 = .ok (.aload_n 0, 1) := by decide +kernel
theorem dX5_isReadable_44 : decode cX5_isReadable 44 = .ok (.getfield 26, 3) := by decide +kernel
theorem dX5_isReadable_47 : decode cX5_isReadable 47 = .ok (.iload_n 1, 1) := by decide +kernel
theorem dX5_isReadable_48 : decode cX5_isReadable 48 = .ok (.iaload, 1) := by decide +kernel
theorem dX5_isReadable_49 : decode cX5_isReadable 49 = .ok (.iconst 1, 1) := by decide +kernel
theorem dX5_isReadable_50 : decode cX5_isReadable 50 = .ok (.invokevirtual 82, 3) := by decide +kernel
theorem dX5_isReadable_53 : decode cX5_isReadable 53 = .ok (.ifCond .eq 7, 3) := by decide +kernel
theorem dX5_isReadable_56 : decode cX5_isReadable 56 = .ok (.iconst 1, 1) := by decide +kernel
theorem dX5_isReadable_57 : decode cX5_isReadable 57 = .ok (.goto 4, 3) := by decide +kernel
theorem dX5_isReadable_60 : decode cX5_isReadable 60 = .ok (.iconst 0, 1) := by decide +kernel
theorem dX5_isReadable_61 : decode cX5_isReadable 61 = .ok (.ireturn, 1) := by decide +kernel
def f_X5_isReadable (p1 : Int32) (M : Mem) : Bool :=
  if (f_X5_isGood (M 4 p1.toNatClampNeg) 0 M) then true
  else if (f_X5_isGood (M 4 p1.toNatClampNeg) 1 M) then true
  else if (f_X5_isGood (M 5 p1.toNatClampNeg) 0 M) then true
  else if (f_X5_isGood (M 5 p1.toNatClampNeg) 1 M) then true
  else false
set_option maxRecDepth 100000 in
set_option maxHeartbeats 4000000 in
theorem k_X5_isReadable (q : ZQ) (p1 : Int32) (M : Mem) (hp : vp_in p1 53 ∧ PlM M) : Zc (zgM q) mX5_isReadable 0 0 [.inr 0, .inl p1] M (wB M (f_X5_isReadable p1 M)) := by
  refine Zc.of (by decide) zi_X5_isReadable.1 (Nat.le_of_ble_eq_true rfl) rfl ?_
  show Zg _ _ _ _ _ _ (zlet (f_X5_isReadable p1 M) (wB M)) _ _ _ _
  unfold f_X5_isReadable
  refine zg_aload_n (x := 0) dX5_isReadable_0 rfl ?_
  refine zg_aload_n (x := 0) dX5_isReadable_1 rfl ?_
  refine zg_getf (v := .inr 4) dX5_isReadable_2 zf_X5_23 rfl rfl rfl ?_
  refine zg_iload_n (x := p1) dX5_isReadable_5 rfl ?_
  refine zg_iald dX5_isReadable_6 rfl hp.1 ?_
  refine zg_iconst (v := 0) dX5_isReadable_7 rfl ?_
  refine zg_cV1 (As := [.inl (M 4 p1.toNatClampNeg), .inl 0]) (S := []) (v := bI ((f_X5_isGood (M 4 p1.toNatClampNeg) 0 M))) dX5_isReadable_8 zk_X5_82 (k_X5_isGood q (M 4 p1.toNatClampNeg) 0 M (by first | with_reducible exact zPl_at hp.2.1 hp.1 (by decide) | with_reducible exact zPl_at hp.2.2 hp.1 (by decide))) rfl rfl ⟨by decide, by decide⟩ ⟨by decide, by decide⟩ rfl (Nat.le_of_ble_eq_true rfl) ?_
  refine zg_st (pc' := 11) (L' := [some (.inr 0), some (.inl p1)]) (S' := [.inl (bI ((f_X5_isGood (M 4 p1.toNatClampNeg) 0 M)))]) (M' := M) rfl rfl rfl rfl ?_
  refine zg_ifbn (tgt := 56) dX5_isReadable_11 rfl (fun c11 => ?_) (fun c11 => ?_)
  · refine zg_st (pc' := 56) (L' := [some (.inr 0), some (.inl p1)]) (S' := []) (M' := M) rfl rfl rfl rfl ?_
    refine zg_iconst (v := 1) dX5_isReadable_56 rfl ?_
    refine zg_goto (tgt := 61) dX5_isReadable_57 rfl ?_
    refine zg_st (pc' := 61) (L' := [some (.inr 0), some (.inl p1)]) (S' := [.inl 1]) (M' := M) rfl rfl rfl rfl ?_
    exact zg_iret dX5_isReadable_61 rfl rfl ⟨by decide, by decide⟩ rfl
  · refine zg_st (pc' := 14) (L' := [some (.inr 0), some (.inl p1)]) (S' := []) (M' := M) rfl rfl rfl rfl ?_
    refine zg_aload_n (x := 0) dX5_isReadable_14 rfl ?_
    refine zg_aload_n (x := 0) dX5_isReadable_15 rfl ?_
    refine zg_getf (v := .inr 4) dX5_isReadable_16 zf_X5_23 rfl rfl rfl ?_
    refine zg_iload_n (x := p1) dX5_isReadable_19 rfl ?_
    refine zg_iald dX5_isReadable_20 rfl hp.1 ?_
    refine zg_iconst (v := 1) dX5_isReadable_21 rfl ?_
    refine zg_cV1 (As := [.inl (M 4 p1.toNatClampNeg), .inl 1]) (S := []) (v := bI ((f_X5_isGood (M 4 p1.toNatClampNeg) 1 M))) dX5_isReadable_22 zk_X5_82 (k_X5_isGood q (M 4 p1.toNatClampNeg) 1 M (by first | with_reducible exact zPl_at hp.2.1 hp.1 (by decide) | with_reducible exact zPl_at hp.2.2 hp.1 (by decide))) rfl rfl ⟨by decide, by decide⟩ ⟨by decide, by decide⟩ rfl (Nat.le_of_ble_eq_true rfl) ?_
    refine zg_st (pc' := 25) (L' := [some (.inr 0), some (.inl p1)]) (S' := [.inl (bI ((f_X5_isGood (M 4 p1.toNatClampNeg) 1 M)))]) (M' := M) rfl rfl rfl rfl ?_
    refine zg_ifbn (tgt := 56) dX5_isReadable_25 rfl (fun c25 => ?_) (fun c25 => ?_)
    · refine zg_st (pc' := 56) (L' := [some (.inr 0), some (.inl p1)]) (S' := []) (M' := M) rfl rfl rfl rfl ?_
      refine zg_iconst (v := 1) dX5_isReadable_56 rfl ?_
      refine zg_goto (tgt := 61) dX5_isReadable_57 rfl ?_
      refine zg_st (pc' := 61) (L' := [some (.inr 0), some (.inl p1)]) (S' := [.inl 1]) (M' := M) rfl rfl rfl rfl ?_
      exact zg_iret dX5_isReadable_61 rfl rfl ⟨by decide, by decide⟩ rfl
    · refine zg_st (pc' := 28) (L' := [some (.inr 0), some (.inl p1)]) (S' := []) (M' := M) rfl rfl rfl rfl ?_
      refine zg_aload_n (x := 0) dX5_isReadable_28 rfl ?_
      refine zg_aload_n (x := 0) dX5_isReadable_29 rfl ?_
      refine zg_getf (v := .inr 5) dX5_isReadable_30 zf_X5_26 rfl rfl rfl ?_
      refine zg_iload_n (x := p1) dX5_isReadable_33 rfl ?_
      refine zg_iald dX5_isReadable_34 rfl hp.1 ?_
      refine zg_iconst (v := 0) dX5_isReadable_35 rfl ?_
      refine zg_cV1 (As := [.inl (M 5 p1.toNatClampNeg), .inl 0]) (S := []) (v := bI ((f_X5_isGood (M 5 p1.toNatClampNeg) 0 M))) dX5_isReadable_36 zk_X5_82 (k_X5_isGood q (M 5 p1.toNatClampNeg) 0 M (by first | with_reducible exact zPl_at hp.2.1 hp.1 (by decide) | with_reducible exact zPl_at hp.2.2 hp.1 (by decide))) rfl rfl ⟨by decide, by decide⟩ ⟨by decide, by decide⟩ rfl (Nat.le_of_ble_eq_true rfl) ?_
      refine zg_st (pc' := 39) (L' := [some (.inr 0), some (.inl p1)]) (S' := [.inl (bI ((f_X5_isGood (M 5 p1.toNatClampNeg) 0 M)))]) (M' := M) rfl rfl rfl rfl ?_
      refine zg_ifbn (tgt := 56) dX5_isReadable_39 rfl (fun c39 => ?_) (fun c39 => ?_)
      · refine zg_st (pc' := 56) (L' := [some (.inr 0), some (.inl p1)]) (S' := []) (M' := M) rfl rfl rfl rfl ?_
        refine zg_iconst (v := 1) dX5_isReadable_56 rfl ?_
        refine zg_goto (tgt := 61) dX5_isReadable_57 rfl ?_
        refine zg_st (pc' := 61) (L' := [some (.inr 0), some (.inl p1)]) (S' := [.inl 1]) (M' := M) rfl rfl rfl rfl ?_
        exact zg_iret dX5_isReadable_61 rfl rfl ⟨by decide, by decide⟩ rfl
      · refine zg_st (pc' := 42) (L' := [some (.inr 0), some (.inl p1)]) (S' := []) (M' := M) rfl rfl rfl rfl ?_
        refine zg_aload_n (x := 0) dX5_isReadable_42 rfl ?_
        refine zg_aload_n (x := 0) dX5_isReadable_43 rfl ?_
        refine zg_getf (v := .inr 5) dX5_isReadable_44 zf_X5_26 rfl rfl rfl ?_
        refine zg_iload_n (x := p1) dX5_isReadable_47 rfl ?_
        refine zg_iald dX5_isReadable_48 rfl hp.1 ?_
        refine zg_iconst (v := 1) dX5_isReadable_49 rfl ?_
        refine zg_cV1 (As := [.inl (M 5 p1.toNatClampNeg), .inl 1]) (S := []) (v := bI ((f_X5_isGood (M 5 p1.toNatClampNeg) 1 M))) dX5_isReadable_50 zk_X5_82 (k_X5_isGood q (M 5 p1.toNatClampNeg) 1 M (by first | with_reducible exact zPl_at hp.2.1 hp.1 (by decide) | with_reducible exact zPl_at hp.2.2 hp.1 (by decide))) rfl rfl ⟨by decide, by decide⟩ ⟨by decide, by decide⟩ rfl (Nat.le_of_ble_eq_true rfl) ?_
        refine zg_st (pc' := 53) (L' := [some (.inr 0), some (.inl p1)]) (S' := [.inl (bI ((f_X5_isGood (M 5 p1.toNatClampNeg) 1 M)))]) (M' := M) rfl rfl rfl rfl ?_
        refine zg_ifbe (tgt := 60) dX5_isReadable_53 rfl (fun c53 => ?_) (fun c53 => ?_)
        · refine zg_st (pc' := 56) (L' := [some (.inr 0), some (.inl p1)]) (S' := []) (M' := M) rfl rfl rfl rfl ?_
          refine zg_iconst (v := 1) dX5_isReadable_56 rfl ?_
          refine zg_goto (tgt := 61) dX5_isReadable_57 rfl ?_
          refine zg_st (pc' := 61) (L' := [some (.inr 0), some (.inl p1)]) (S' := [.inl 1]) (M' := M) rfl rfl rfl rfl ?_
          exact zg_iret dX5_isReadable_61 rfl rfl ⟨by decide, by decide⟩ rfl
        · refine zg_st (pc' := 60) (L' := [some (.inr 0), some (.inl p1)]) (S' := []) (M' := M) rfl rfl rfl rfl ?_
          refine zg_iconst (v := 0) dX5_isReadable_60 rfl ?_
          exact zg_iret dX5_isReadable_61 rfl rfl ⟨by decide, by decide⟩ rfl
theorem dX5_isCut_0 : decode cX5_isCut 0 = .ok (.aload_n 0, 1) := by decide +kernel
theorem dX5_isCut_1 : decode cX5_isCut 1 = .ok (.bipush 52, 2) := by decide +kernel
theorem dX5_isCut_3 : decode cX5_isCut 3 = .ok (.invokevirtual 92, 3) := by decide +kernel
theorem dX5_isCut_6 : decode cX5_isCut 6 = .ok (.ifCond .eq 16, 3) := by decide +kernel
theorem dX5_isCut_9 : decode cX5_isCut 9 = .ok (.aload_n 0, 1) := by decide +kernel
theorem dX5_isCut_10 : decode cX5_isCut 10 = .ok (.bipush 52, 2) := by decide +kernel
theorem dX5_isCut_12 : decode cX5_isCut 12 = .ok (.invokevirtual 95, 3) := by decide +kernel
theorem dX5_isCut_15 : decode cX5_isCut 15 = .ok (.ifCond .ne 7, 3) := by decide +kernel
theorem dX5_isCut_18 : decode cX5_isCut 18 = .ok (.iconst 1, 1) := by decide +kernel
theorem dX5_isCut_19 : decode cX5_isCut 19 = .ok (.goto 4, 3) := by decide +kernel
theorem dX5_isCut_22 : decode cX5_isCut 22 = .ok (.iconst 0, 1) := by decide +kernel
theorem dX5_isCut_23 : decode cX5_isCut 23 = .ok (.istore_n 3, 1) := by decide +kernel
theorem dX5_isCut_24 : decode cX5_isCut 24 = .ok (.aload_n 0, 1) := by decide +kernel
theorem dX5_isCut_25 : decode cX5_isCut 25 = .ok (.bipush 48, 2) := by decide +kernel
theorem dX5_isCut_27 : decode cX5_isCut 27 = .ok (.iload_n 1, 1) := by decide +kernel
theorem dX5_isCut_28 : decode cX5_isCut 28 = .ok (.iadd, 1) := by decide +kernel
theorem dX5_isCut_29 : decode cX5_isCut 29 = .ok (.invokevirtual 92, 3) := by decide +kernel
theorem dX5_isCut_32 : decode cX5_isCut 32 = .ok (.ifCond .eq 18, 3) := by decide +kernel
theorem dX5_isCut_35 : decode cX5_isCut 35 = .ok (.aload_n 0, 1) := by decide +kernel
theorem dX5_isCut_36 : decode cX5_isCut 36 = .ok (.bipush 48, 2) := by decide +kernel
theorem dX5_isCut_38 : decode cX5_isCut 38 = .ok (.iload_n 1, 1) := by decide +kernel
theorem dX5_isCut_39 : decode cX5_isCut 39 = .ok (.iadd, 1) := by decide +kernel
theorem dX5_isCut_40 : decode cX5_isCut 40 = .ok (.invokevirtual 95, 3) := by decide +kernel
theorem dX5_isCut_43 : decode cX5_isCut 43 = .ok (.ifCond .ne 7, 3) := by decide +kernel
theorem dX5_isCut_46 : decode cX5_isCut 46 = .ok (.iconst 1, 1) := by decide +kernel
theorem dX5_isCut_47 : decode cX5_isCut 47 = .ok (.goto 4, 3) := by decide +kernel
theorem dX5_isCut_50 : decode cX5_isCut 50 = .ok (.iconst 0, 1) := by decide +kernel
theorem dX5_isCut_51 : decode cX5_isCut 51 = .ok (.istore 4, 2) := by decide +kernel
theorem dX5_isCut_53 : decode cX5_isCut 53 = .ok (.iload_n 3, 1) := by decide +kernel
theorem dX5_isCut_54 : decode cX5_isCut 54 = .ok (.ifCond .ne 34, 3) := by decide +kernel
theorem dX5_isCut_57 : decode cX5_isCut 57 = .ok (.iload 4, 2) := by decide +kernel
theorem dX5_isCut_59 : decode cX5_isCut 59 = .ok (.ifCond .ne 29, 3) := by decide +kernel
theorem dX5_isCut_62 : decode cX5_isCut 62 = .ok (.aload_n 0, 1) := by decide +kernel
theorem dX5_isCut_63 : decode cX5_isCut 63 = .ok (.bipush 12, 2) := by decide +kernel
theorem dX5_isCut_65 : decode cX5_isCut 65 = .ok (.iload_n 1, 1) := by decide +kernel
theorem dX5_isCut_66 : decode cX5_isCut 66 = .ok (.imul, 1) := by decide +kernel
theorem dX5_isCut_67 : decode cX5_isCut 67 = .ok (.iload_n 2, 1) := by decide +kernel
theorem dX5_isCut_68 : decode cX5_isCut 68 = .ok (.iadd, 1) := by decide +kernel
theorem dX5_isCut_69 : decode cX5_isCut 69 = .ok (.invokevirtual 92, 3) := by decide +kernel
theorem dX5_isCut_72 : decode cX5_isCut 72 = .ok (.ifCond .eq 20, 3) := by decide +kernel
theorem dX5_isCut_75 : decode cX5_isCut 75 = .ok (.aload_n 0, 1) := by decide +kernel
theorem dX5_isCut_76 : decode cX5_isCut 76 = .ok (.bipush 12, 2) := by decide +kernel
theorem dX5_isCut_78 : decode cX5_isCut 78 = .ok (.iload_n 1, 1) := by decide +kernel
theorem dX5_isCut_79 : decode cX5_isCut 79 = .ok (.imul, 1) := by decide +kernel
theorem dX5_isCut_80 : decode cX5_isCut 80 = .ok (.iload_n 2, 1) := by decide +kernel
theorem dX5_isCut_81 : decode cX5_isCut 81 = .ok (.iadd, 1) := by decide +kernel
theorem dX5_isCut_82 : decode cX5_isCut 82 = .ok (.invokevirtual 95, 3) := by decide +kernel
theorem dX5_isCut_85 : decode cX5_isCut 85 = .ok (.ifCond .ne 7, 3) := by decide +kernel
theorem dX5_isCut_88 : decode cX5_isCut 88 = .ok (.iconst 1, 1) := by decide +kernel
theorem dX5_isCut_89 : decode cX5_isCut 89 = .ok (.goto 4, 3) := by decide +kernel
theorem dX5_isCut_92 : decode cX5_isCut 92 = .ok (.iconst 0, 1) := by decide +kernel
theorem dX5_isCut_93 : decode cX5_isCut 93 = .ok (.ireturn, 1) := by decide +kernel
def f_X5_isCut (p1 : Int32) (p2 : Int32) (M : Mem) : Bool :=
  zlet (if (f_X5_isThere 52 M) then if (f_X5_isReadable 52 M) then false
      else true
    else false) (fun (j1 : Bool) =>
  zlet (if (f_X5_isThere (48 + p1) M) then if (f_X5_isReadable (48 + p1) M) then false
        else true
      else false) (fun (j3 : Bool) =>
    if j1 then true
      else if j3 then true
      else if (f_X5_isThere ((12 * p1) + p2) M) then if (f_X5_isReadable ((12 * p1) + p2) M) then false
        else true
      else false))
set_option maxRecDepth 100000 in
set_option maxHeartbeats 4000000 in
theorem k_X5_isCut (q : ZQ) (p1 : Int32) (p2 : Int32) (M : Mem) (hp : ((0 ≤ p1.toInt ∧ p1.toInt < 4) ∧ 0 ≤ p2.toInt ∧ p2.toInt < 12) ∧ PlM M) : Zc (zgM q) mX5_isCut 0 0 [.inr 0, .inl p1, .inl p2] M (wB M (f_X5_isCut p1 p2 M)) := by
  refine Zc.of (by decide) zi_X5_isCut.1 (Nat.le_of_ble_eq_true rfl) rfl ?_
  show Zg _ _ _ _ _ _ (zlet (f_X5_isCut p1 p2 M) (wB M)) _ _ _ _
  unfold f_X5_isCut
  refine zg_aload_n (x := 0) dX5_isCut_0 rfl ?_
  refine zg_bipush (v := 52) dX5_isCut_1 rfl ?_
  refine zg_cV1 (As := [.inl 52]) (S := []) (v := bI ((f_X5_isThere 52 M))) dX5_isCut_3 zk_X5_92 (k_X5_isThere q 52 M (by first | with_reducible exact z_52 | with_reducible exact z_c53a hp.1.1 | with_reducible exact z_c53b hp.1)) rfl rfl ⟨by decide, by decide⟩ ⟨by decide, by decide⟩ rfl (Nat.le_of_ble_eq_true rfl) ?_
  refine zg_st (pc' := 6) (L' := [some (.inr 0), some (.inl p1), some (.inl p2), none, none]) (S' := [.inl (bI ((f_X5_isThere 52 M)))]) (M' := M) rfl rfl rfl rfl ?_
  refine zg_join (pc' := 23) (Lf := fun (j1 : Bool) => [some (.inr 0), some (.inl p1), some (.inl p2), none, none]) (Sf := fun j1 => [.inl (bI j1)]) (Mf := fun j1 => M) (fun (j1 : Bool) => ?_) (fun J2 => ?_)
  · try dsimp only
    refine zg_istore_n dX5_isCut_23 (by decide) ?_
    refine zg_st (pc' := 24) (L' := [some (.inr 0), some (.inl p1), some (.inl p2), some (.inl (bI j1)), none]) (S' := []) (M' := M) rfl rfl rfl rfl ?_
    refine zg_aload_n (x := 0) dX5_isCut_24 rfl ?_
    refine zg_bipush (v := 48) dX5_isCut_25 rfl ?_
    refine zg_iload_n (x := p1) dX5_isCut_27 rfl ?_
    refine zg_iadd dX5_isCut_28 ?_
    refine zg_cV1 (As := [.inl (48 + p1)]) (S := []) (v := bI ((f_X5_isThere (48 + p1) M))) dX5_isCut_29 zk_X5_92 (k_X5_isThere q (48 + p1) M (by first | with_reducible exact z_52 | with_reducible exact z_c53a hp.1.1 | with_reducible exact z_c53b hp.1)) rfl rfl ⟨by decide, by decide⟩ ⟨by decide, by decide⟩ rfl (Nat.le_of_ble_eq_true rfl) ?_
    refine zg_st (pc' := 32) (L' := [some (.inr 0), some (.inl p1), some (.inl p2), some (.inl (bI j1)), none]) (S' := [.inl (bI ((f_X5_isThere (48 + p1) M)))]) (M' := M) rfl rfl rfl rfl ?_
    refine zg_join (pc' := 51) (Lf := fun (j3 : Bool) => [some (.inr 0), some (.inl p1), some (.inl p2), some (.inl (bI j1)), none]) (Sf := fun j3 => [.inl (bI j3)]) (Mf := fun j3 => M) (fun (j3 : Bool) => ?_) (fun J4 => ?_)
    · try dsimp only
      refine zg_istore dX5_isCut_51 (by decide) ?_
      refine zg_st (pc' := 53) (L' := [some (.inr 0), some (.inl p1), some (.inl p2), some (.inl (bI j1)), some (.inl (bI j3))]) (S' := []) (M' := M) rfl rfl rfl rfl ?_
      refine zg_iload_n (x := bI j1) dX5_isCut_53 rfl ?_
      refine zg_ifbn (tgt := 88) dX5_isCut_54 rfl (fun c54 => ?_) (fun c54 => ?_)
      · refine zg_st (pc' := 88) (L' := [some (.inr 0), some (.inl p1), some (.inl p2), some (.inl (bI j1)), some (.inl (bI j3))]) (S' := []) (M' := M) rfl rfl rfl rfl ?_
        refine zg_iconst (v := 1) dX5_isCut_88 rfl ?_
        refine zg_goto (tgt := 93) dX5_isCut_89 rfl ?_
        refine zg_st (pc' := 93) (L' := [some (.inr 0), some (.inl p1), some (.inl p2), some (.inl (bI j1)), some (.inl (bI j3))]) (S' := [.inl 1]) (M' := M) rfl rfl rfl rfl ?_
        exact zg_iret dX5_isCut_93 rfl rfl ⟨by decide, by decide⟩ rfl
      · refine zg_st (pc' := 57) (L' := [some (.inr 0), some (.inl p1), some (.inl p2), some (.inl (bI j1)), some (.inl (bI j3))]) (S' := []) (M' := M) rfl rfl rfl rfl ?_
        refine zg_iload (x := bI j3) dX5_isCut_57 rfl ?_
        refine zg_ifbn (tgt := 88) dX5_isCut_59 rfl (fun c59 => ?_) (fun c59 => ?_)
        · refine zg_st (pc' := 88) (L' := [some (.inr 0), some (.inl p1), some (.inl p2), some (.inl (bI j1)), some (.inl (bI j3))]) (S' := []) (M' := M) rfl rfl rfl rfl ?_
          refine zg_iconst (v := 1) dX5_isCut_88 rfl ?_
          refine zg_goto (tgt := 93) dX5_isCut_89 rfl ?_
          refine zg_st (pc' := 93) (L' := [some (.inr 0), some (.inl p1), some (.inl p2), some (.inl (bI j1)), some (.inl (bI j3))]) (S' := [.inl 1]) (M' := M) rfl rfl rfl rfl ?_
          exact zg_iret dX5_isCut_93 rfl rfl ⟨by decide, by decide⟩ rfl
        · refine zg_st (pc' := 62) (L' := [some (.inr 0), some (.inl p1), some (.inl p2), some (.inl (bI j1)), some (.inl (bI j3))]) (S' := []) (M' := M) rfl rfl rfl rfl ?_
          refine zg_aload_n (x := 0) dX5_isCut_62 rfl ?_
          refine zg_bipush (v := 12) dX5_isCut_63 rfl ?_
          refine zg_iload_n (x := p1) dX5_isCut_65 rfl ?_
          refine zg_imul dX5_isCut_66 ?_
          refine zg_iload_n (x := p2) dX5_isCut_67 rfl ?_
          refine zg_iadd dX5_isCut_68 ?_
          refine zg_cV1 (As := [.inl ((12 * p1) + p2)]) (S := []) (v := bI ((f_X5_isThere ((12 * p1) + p2) M))) dX5_isCut_69 zk_X5_92 (k_X5_isThere q ((12 * p1) + p2) M (by first | with_reducible exact z_52 | with_reducible exact z_c53a hp.1.1 | with_reducible exact z_c53b hp.1)) rfl rfl ⟨by decide, by decide⟩ ⟨by decide, by decide⟩ rfl (Nat.le_of_ble_eq_true rfl) ?_
          refine zg_st (pc' := 72) (L' := [some (.inr 0), some (.inl p1), some (.inl p2), some (.inl (bI j1)), some (.inl (bI j3))]) (S' := [.inl (bI ((f_X5_isThere ((12 * p1) + p2) M)))]) (M' := M) rfl rfl rfl rfl ?_
          refine zg_ifbe (tgt := 92) dX5_isCut_72 rfl (fun c72 => ?_) (fun c72 => ?_)
          · refine zg_st (pc' := 75) (L' := [some (.inr 0), some (.inl p1), some (.inl p2), some (.inl (bI j1)), some (.inl (bI j3))]) (S' := []) (M' := M) rfl rfl rfl rfl ?_
            refine zg_aload_n (x := 0) dX5_isCut_75 rfl ?_
            refine zg_bipush (v := 12) dX5_isCut_76 rfl ?_
            refine zg_iload_n (x := p1) dX5_isCut_78 rfl ?_
            refine zg_imul dX5_isCut_79 ?_
            refine zg_iload_n (x := p2) dX5_isCut_80 rfl ?_
            refine zg_iadd dX5_isCut_81 ?_
            refine zg_cV1 (As := [.inl ((12 * p1) + p2)]) (S := []) (v := bI ((f_X5_isReadable ((12 * p1) + p2) M))) dX5_isCut_82 zk_X5_95 (k_X5_isReadable q ((12 * p1) + p2) M (by first | with_reducible exact ⟨z_52, hp.2⟩ | with_reducible exact ⟨z_c53a hp.1.1, hp.2⟩ | with_reducible exact ⟨z_c53b hp.1, hp.2⟩)) rfl rfl ⟨by decide, by decide⟩ ⟨by decide, by decide⟩ rfl (Nat.le_of_ble_eq_true rfl) ?_
            refine zg_st (pc' := 85) (L' := [some (.inr 0), some (.inl p1), some (.inl p2), some (.inl (bI j1)), some (.inl (bI j3))]) (S' := [.inl (bI ((f_X5_isReadable ((12 * p1) + p2) M)))]) (M' := M) rfl rfl rfl rfl ?_
            refine zg_ifbn (tgt := 92) dX5_isCut_85 rfl (fun c85 => ?_) (fun c85 => ?_)
            · refine zg_st (pc' := 92) (L' := [some (.inr 0), some (.inl p1), some (.inl p2), some (.inl (bI j1)), some (.inl (bI j3))]) (S' := []) (M' := M) rfl rfl rfl rfl ?_
              refine zg_iconst (v := 0) dX5_isCut_92 rfl ?_
              exact zg_iret dX5_isCut_93 rfl rfl ⟨by decide, by decide⟩ rfl
            · refine zg_st (pc' := 88) (L' := [some (.inr 0), some (.inl p1), some (.inl p2), some (.inl (bI j1)), some (.inl (bI j3))]) (S' := []) (M' := M) rfl rfl rfl rfl ?_
              refine zg_iconst (v := 1) dX5_isCut_88 rfl ?_
              refine zg_goto (tgt := 93) dX5_isCut_89 rfl ?_
              refine zg_st (pc' := 93) (L' := [some (.inr 0), some (.inl p1), some (.inl p2), some (.inl (bI j1)), some (.inl (bI j3))]) (S' := [.inl 1]) (M' := M) rfl rfl rfl rfl ?_
              exact zg_iret dX5_isCut_93 rfl rfl ⟨by decide, by decide⟩ rfl
          · refine zg_st (pc' := 92) (L' := [some (.inr 0), some (.inl p1), some (.inl p2), some (.inl (bI j1)), some (.inl (bI j3))]) (S' := []) (M' := M) rfl rfl rfl rfl ?_
            refine zg_iconst (v := 0) dX5_isCut_92 rfl ?_
            exact zg_iret dX5_isCut_93 rfl rfl ⟨by decide, by decide⟩ rfl
    · refine zg_ifbe (tgt := 50) dX5_isCut_32 rfl (fun c32 => ?_) (fun c32 => ?_)
      · refine zg_st (pc' := 35) (L' := [some (.inr 0), some (.inl p1), some (.inl p2), some (.inl (bI j1)), none]) (S' := []) (M' := M) rfl rfl rfl rfl ?_
        refine zg_aload_n (x := 0) dX5_isCut_35 rfl ?_
        refine zg_bipush (v := 48) dX5_isCut_36 rfl ?_
        refine zg_iload_n (x := p1) dX5_isCut_38 rfl ?_
        refine zg_iadd dX5_isCut_39 ?_
        refine zg_cV1 (As := [.inl (48 + p1)]) (S := []) (v := bI ((f_X5_isReadable (48 + p1) M))) dX5_isCut_40 zk_X5_95 (k_X5_isReadable q (48 + p1) M (by first | with_reducible exact ⟨z_52, hp.2⟩ | with_reducible exact ⟨z_c53a hp.1.1, hp.2⟩ | with_reducible exact ⟨z_c53b hp.1, hp.2⟩)) rfl rfl ⟨by decide, by decide⟩ ⟨by decide, by decide⟩ rfl (Nat.le_of_ble_eq_true rfl) ?_
        refine zg_st (pc' := 43) (L' := [some (.inr 0), some (.inl p1), some (.inl p2), some (.inl (bI j1)), none]) (S' := [.inl (bI ((f_X5_isReadable (48 + p1) M)))]) (M' := M) rfl rfl rfl rfl ?_
        refine zg_ifbn (tgt := 50) dX5_isCut_43 rfl (fun c43 => ?_) (fun c43 => ?_)
        · refine zg_st (pc' := 50) (L' := [some (.inr 0), some (.inl p1), some (.inl p2), some (.inl (bI j1)), none]) (S' := []) (M' := M) rfl rfl rfl rfl ?_
          refine zg_iconst (v := 0) dX5_isCut_50 rfl ?_
          refine zg_drop (L' := [some (.inr 0), some (.inl p1), some (.inl p2), some (.inl (bI j1)), none]) ⟨rfl, rfl, rfl, rfl, trivial⟩ ?_
          exact J4 false
        · refine zg_st (pc' := 46) (L' := [some (.inr 0), some (.inl p1), some (.inl p2), some (.inl (bI j1)), none]) (S' := []) (M' := M) rfl rfl rfl rfl ?_
          refine zg_iconst (v := 1) dX5_isCut_46 rfl ?_
          refine zg_goto (tgt := 51) dX5_isCut_47 rfl ?_
          refine zg_st (pc' := 51) (L' := [some (.inr 0), some (.inl p1), some (.inl p2), some (.inl (bI j1)), none]) (S' := [.inl 1]) (M' := M) rfl rfl rfl rfl ?_
          refine zg_drop (L' := [some (.inr 0), some (.inl p1), some (.inl p2), some (.inl (bI j1)), none]) ⟨rfl, rfl, rfl, rfl, trivial⟩ ?_
          exact J4 true
      · refine zg_st (pc' := 50) (L' := [some (.inr 0), some (.inl p1), some (.inl p2), some (.inl (bI j1)), none]) (S' := []) (M' := M) rfl rfl rfl rfl ?_
        refine zg_iconst (v := 0) dX5_isCut_50 rfl ?_
        refine zg_drop (L' := [some (.inr 0), some (.inl p1), some (.inl p2), some (.inl (bI j1)), none]) ⟨rfl, rfl, rfl, rfl, trivial⟩ ?_
        exact J4 false
  · refine zg_ifbe (tgt := 22) dX5_isCut_6 rfl (fun c6 => ?_) (fun c6 => ?_)
    · refine zg_st (pc' := 9) (L' := [some (.inr 0), some (.inl p1), some (.inl p2), none, none]) (S' := []) (M' := M) rfl rfl rfl rfl ?_
      refine zg_aload_n (x := 0) dX5_isCut_9 rfl ?_
      refine zg_bipush (v := 52) dX5_isCut_10 rfl ?_
      refine zg_cV1 (As := [.inl 52]) (S := []) (v := bI ((f_X5_isReadable 52 M))) dX5_isCut_12 zk_X5_95 (k_X5_isReadable q 52 M (by first | with_reducible exact ⟨z_52, hp.2⟩ | with_reducible exact ⟨z_c53a hp.1.1, hp.2⟩ | with_reducible exact ⟨z_c53b hp.1, hp.2⟩)) rfl rfl ⟨by decide, by decide⟩ ⟨by decide, by decide⟩ rfl (Nat.le_of_ble_eq_true rfl) ?_
      refine zg_st (pc' := 15) (L' := [some (.inr 0), some (.inl p1), some (.inl p2), none, none]) (S' := [.inl (bI ((f_X5_isReadable 52 M)))]) (M' := M) rfl rfl rfl rfl ?_
      refine zg_ifbn (tgt := 22) dX5_isCut_15 rfl (fun c15 => ?_) (fun c15 => ?_)
      · refine zg_st (pc' := 22) (L' := [some (.inr 0), some (.inl p1), some (.inl p2), none, none]) (S' := []) (M' := M) rfl rfl rfl rfl ?_
        refine zg_iconst (v := 0) dX5_isCut_22 rfl ?_
        refine zg_drop (L' := [some (.inr 0), some (.inl p1), some (.inl p2), none, none]) ⟨rfl, rfl, rfl, trivial⟩ ?_
        exact J2 false
      · refine zg_st (pc' := 18) (L' := [some (.inr 0), some (.inl p1), some (.inl p2), none, none]) (S' := []) (M' := M) rfl rfl rfl rfl ?_
        refine zg_iconst (v := 1) dX5_isCut_18 rfl ?_
        refine zg_goto (tgt := 23) dX5_isCut_19 rfl ?_
        refine zg_st (pc' := 23) (L' := [some (.inr 0), some (.inl p1), some (.inl p2), none, none]) (S' := [.inl 1]) (M' := M) rfl rfl rfl rfl ?_
        refine zg_drop (L' := [some (.inr 0), some (.inl p1), some (.inl p2), none, none]) ⟨rfl, rfl, rfl, trivial⟩ ?_
        exact J2 true
    · refine zg_st (pc' := 22) (L' := [some (.inr 0), some (.inl p1), some (.inl p2), none, none]) (S' := []) (M' := M) rfl rfl rfl rfl ?_
      refine zg_iconst (v := 0) dX5_isCut_22 rfl ?_
      refine zg_drop (L' := [some (.inr 0), some (.inl p1), some (.inl p2), none, none]) ⟨rfl, rfl, rfl, trivial⟩ ?_
      exact J2 false
