theorem dX4_valueNow_0 : decode cX4_valueNow 0 = .ok (.iload_n 1, 1) := by decide +kernel
theorem dX4_valueNow_1 : decode cX4_valueNow 1 = .ok (.iload_n 2, 1) := by decide +kernel
theorem dX4_valueNow_2 : decode cX4_valueNow 2 = .ok (.invokestatic 66, 3) := by decide +kernel
theorem dX4_valueNow_5 : decode cX4_valueNow 5 = .ok (.istore_n 3, 1) := by decide +kernel
theorem dX4_valueNow_6 : decode cX4_valueNow 6 = .ok (.aload_n 0, 1) := by decide +kernel
theorem dX4_valueNow_7 : decode cX4_valueNow 7 = .ok (.getfield 26, 3) := by decide +kernel
theorem dX4_valueNow_10 : decode cX4_valueNow 10 = .ok (.iload_n 3, 1) := by decide +kernel
theorem dX4_valueNow_11 : decode cX4_valueNow 11 = .ok (.invokevirtual 86, 3) := by decide +kernel
theorem dX4_valueNow_14 : decode cX4_valueNow 14 = .ok (.ifCond .eq 14, 3) := by decide +kernel
theorem dX4_valueNow_17 : decode cX4_valueNow 17 = .ok (.aload_n 0, 1) := by decide +kernel
theorem dX4_valueNow_18 : decode cX4_valueNow 18 = .ok (.getfield 26, 3) := by decide +kernel
theorem dX4_valueNow_21 : decode cX4_valueNow 21 = .ok (.iload_n 3, 1) := by decide +kernel
theorem dX4_valueNow_22 : decode cX4_valueNow 22 = .ok (.invokevirtual 89, 3) := by decide +kernel
theorem dX4_valueNow_25 : decode cX4_valueNow 25 = .ok (.goto 11, 3) := by decide +kernel
theorem dX4_valueNow_28 : decode cX4_valueNow 28 = .ok (.aload_n 0, 1) := by decide +kernel
theorem dX4_valueNow_29 : decode cX4_valueNow 29 = .ok (.getfield 19, 3) := by decide +kernel
theorem dX4_valueNow_32 : decode cX4_valueNow 32 = .ok (.iload_n 3, 1) := by decide +kernel
theorem dX4_valueNow_33 : decode cX4_valueNow 33 = .ok (.invokevirtual 107, 3) := by decide +kernel
theorem dX4_valueNow_36 : decode cX4_valueNow 36 = .ok (.ireturn, 1) := by decide +kernel
def f_X4_valueNow (p1 : Int32) (p2 : Int32) (M : Mem) : Int32 :=
  if (f_X2_holds (f_X4_blockPointer p1 p2) M) then (f_X2_changeOf (f_X4_blockPointer p1 p2) M)
  else (f_X3_valueOf (f_X4_blockPointer p1 p2) M)
set_option maxRecDepth 100000 in
set_option maxHeartbeats 4000000 in
theorem k_X4_valueNow (q : ZQ) (p1 : Int32) (p2 : Int32) (M : Mem) : Zc (zgX q) mX4_valueNow 0 0 [.inr 0, .inl p1, .inl p2] M (wI M (f_X4_valueNow p1 p2 M)) := by
  refine Zc.of (by decide) zi_X4_valueNow.1 (Nat.le_of_ble_eq_true rfl) rfl ?_
  show Zg _ _ _ _ _ _ (zlet (f_X4_valueNow p1 p2 M) (wI M)) _ _ _ _
  unfold f_X4_valueNow
  refine zg_iload_n (x := p1) dX4_valueNow_0 rfl ?_
  refine zg_iload_n (x := p2) dX4_valueNow_1 rfl ?_
  refine zg_cS1 (As := [.inl p1, .inl p2]) (S := []) (v := (f_X4_blockPointer p1 p2)) dX4_valueNow_2 zk_X4_66 (k_X4_blockPointer q p1 p2 M) rfl ⟨by decide, by decide⟩ ⟨by decide, by decide⟩ rfl (Nat.le_of_ble_eq_true rfl) ?_
  refine zg_st (pc' := 5) (L' := [some (.inr 0), some (.inl p1), some (.inl p2), none]) (S' := [.inl (f_X4_blockPointer p1 p2)]) (M' := M) rfl rfl rfl rfl ?_
  refine zg_istore_n dX4_valueNow_5 (by decide) ?_
  refine zg_st (pc' := 6) (L' := [some (.inr 0), some (.inl p1), some (.inl p2), some (.inl (f_X4_blockPointer p1 p2))]) (S' := []) (M' := M) rfl rfl rfl rfl ?_
  refine zg_aload_n (x := 0) dX4_valueNow_6 rfl ?_
  refine zg_getf (v := .inr 3) dX4_valueNow_7 zf_X4_26 rfl rfl rfl ?_
  refine zg_iload_n (x := (f_X4_blockPointer p1 p2)) dX4_valueNow_10 rfl ?_
  refine zg_cV1 (As := [.inl (f_X4_blockPointer p1 p2)]) (S := []) (v := bI ((f_X2_holds (f_X4_blockPointer p1 p2) M))) dX4_valueNow_11 zk_X4_86 (k_X2_holds q (f_X4_blockPointer p1 p2) M) rfl rfl ⟨by decide, by decide⟩ ⟨by decide, by decide⟩ rfl (Nat.le_of_ble_eq_true rfl) ?_
  refine zg_st (pc' := 14) (L' := [some (.inr 0), some (.inl p1), some (.inl p2), some (.inl (f_X4_blockPointer p1 p2))]) (S' := [.inl (bI ((f_X2_holds (f_X4_blockPointer p1 p2) M)))]) (M' := M) rfl rfl rfl rfl ?_
  refine zg_ifbe (tgt := 28) dX4_valueNow_14 rfl (fun c14 => ?_) (fun c14 => ?_)
  · refine zg_st (pc' := 17) (L' := [some (.inr 0), some (.inl p1), some (.inl p2), some (.inl (f_X4_blockPointer p1 p2))]) (S' := []) (M' := M) rfl rfl rfl rfl ?_
    refine zg_aload_n (x := 0) dX4_valueNow_17 rfl ?_
    refine zg_getf (v := .inr 3) dX4_valueNow_18 zf_X4_26 rfl rfl rfl ?_
    refine zg_iload_n (x := (f_X4_blockPointer p1 p2)) dX4_valueNow_21 rfl ?_
    refine zg_cV1 (As := [.inl (f_X4_blockPointer p1 p2)]) (S := []) (v := (f_X2_changeOf (f_X4_blockPointer p1 p2) M)) dX4_valueNow_22 zk_X4_89 (k_X2_changeOf q (f_X4_blockPointer p1 p2) M) rfl rfl ⟨by decide, by decide⟩ ⟨by decide, by decide⟩ rfl (Nat.le_of_ble_eq_true rfl) ?_
    refine zg_st (pc' := 25) (L' := [some (.inr 0), some (.inl p1), some (.inl p2), some (.inl (f_X4_blockPointer p1 p2))]) (S' := [.inl (f_X2_changeOf (f_X4_blockPointer p1 p2) M)]) (M' := M) rfl rfl rfl rfl ?_
    refine zg_goto (tgt := 36) dX4_valueNow_25 rfl ?_
    refine zg_st (pc' := 36) (L' := [some (.inr 0), some (.inl p1), some (.inl p2), some (.inl (f_X4_blockPointer p1 p2))]) (S' := [.inl (f_X2_changeOf (f_X4_blockPointer p1 p2) M)]) (M' := M) rfl rfl rfl rfl ?_
    exact zg_iret dX4_valueNow_36 rfl rfl ⟨by decide, by decide⟩ rfl
  · refine zg_st (pc' := 28) (L' := [some (.inr 0), some (.inl p1), some (.inl p2), some (.inl (f_X4_blockPointer p1 p2))]) (S' := []) (M' := M) rfl rfl rfl rfl ?_
    refine zg_aload_n (x := 0) dX4_valueNow_28 rfl ?_
    refine zg_getf (v := .inr 2) dX4_valueNow_29 zf_X4_19 rfl rfl rfl ?_
    refine zg_iload_n (x := (f_X4_blockPointer p1 p2)) dX4_valueNow_32 rfl ?_
    refine zg_cV1 (As := [.inl (f_X4_blockPointer p1 p2)]) (S := []) (v := (f_X3_valueOf (f_X4_blockPointer p1 p2) M)) dX4_valueNow_33 zk_X4_107 (k_X3_valueOf q (f_X4_blockPointer p1 p2) M) rfl rfl ⟨by decide, by decide⟩ ⟨by decide, by decide⟩ rfl (Nat.le_of_ble_eq_true rfl) ?_
    refine zg_st (pc' := 36) (L' := [some (.inr 0), some (.inl p1), some (.inl p2), some (.inl (f_X4_blockPointer p1 p2))]) (S' := [.inl (f_X3_valueOf (f_X4_blockPointer p1 p2) M)]) (M' := M) rfl rfl rfl rfl ?_
    exact zg_iret dX4_valueNow_36 rfl rfl ⟨by decide, by decide⟩ rfl
theorem dX4_canFetch_0 : decode cX4_canFetch 0 = .ok (.iconst 0, 1) := by decide +kernel
theorem dX4_canFetch_1 : decode cX4_canFetch 1 = .ok (.istore_n 2, 1) := by decide +kernel
theorem dX4_canFetch_2 : decode cX4_canFetch 2 = .ok (.iload_n 2, 1) := by decide +kernel
theorem dX4_canFetch_3 : decode cX4_canFetch 3 = .ok (.iconst 2, 1) := by decide +kernel
theorem dX4_canFetch_4 : decode cX4_canFetch 4 = .ok (.if_icmp .ge 49, 3) := by decide +kernel
theorem dX4_canFetch_7 : decode cX4_canFetch 7 = .ok (.aload_n 0, 1) := by decide +kernel
theorem dX4_canFetch_8 : decode cX4_canFetch 8 = .ok (.getfield 19, 3) := by decide +kernel
theorem dX4_canFetch_11 : decode cX4_canFetch 11 = .ok (.iload_n 1, 1) := by decide +kernel
theorem dX4_canFetch_12 : decode cX4_canFetch 12 = .ok (.iload_n 2, 1) := by decide +kernel
theorem dX4_canFetch_13 : decode cX4_canFetch 13 = .ok (.invokevirtual 209, 3) := by decide +kernel
theorem dX4_canFetch_16 : decode cX4_canFetch 16 = .ok (.istore_n 3, 1) := by decide +kernel
theorem dX4_canFetch_17 : decode cX4_canFetch 17 = .ok (.iconst 0, 1) := by decide +kernel
theorem dX4_canFetch_18 : decode cX4_canFetch 18 = .ok (.istore 4, 2) := by decide +kernel
theorem dX4_canFetch_20 : decode cX4_canFetch 20 = .ok (.iload 4, 2) := by decide +kernel
theorem dX4_canFetch_22 : decode cX4_canFetch 22 = .ok (.iconst 2, 1) := by decide +kernel
theorem dX4_canFetch_23 : decode cX4_canFetch 23 = .ok (.if_icmp .ge 24, 3) := by decide +kernel
theorem dX4_canFetch_26 : decode cX4_canFetch 26 = .ok (.aload_n 0, 1) := by decide +kernel
theorem dX4_canFetch_27 : decode cX4_canFetch 27 = .ok (.getfield 12, 3) := by decide +kernel
theorem dX4_canFetch_30 : decode cX4_canFetch 30 = .ok (.iload_n 3, 1) := by decide +kernel
theorem dX4_canFetch_31 : decode cX4_canFetch 31 = .ok (.iload 4, 2) := by decide +kernel
theorem dX4_canFetch_33 : decode cX4_canFetch 33 = .ok (.invokevirtual 234, 3) := by decide +kernel
theorem dX4_canFetch_36 : decode cX4_canFetch 36 = .ok (.ifCond .eq 5, 3) := by decide +kernel
theorem dX4_canFetch_39 : decode cX4_canFetch 39 = .ok (.iconst 1, 1) := by decide +kernel
theorem dX4_canFetch_40 : decode cX4_canFetch 40 = .ok (.ireturn, 1) := by decide +kernel
theorem dX4_canFetch_41 : decode cX4_canFetch 41 = .ok (.iinc 4 1, 3) := by decide +kernel
theorem dX4_canFetch_44 : decode cX4_canFetch 44 = .ok (.goto (-24), 3) := by decide +kernel
theorem dX4_canFetch_47 : decode cX4_canFetch 47 = .ok (.iinc 2 1, 3) := by decide +kernel
theorem dX4_canFetch_50 : decode cX4_canFetch 50 = .ok (.goto (-48), 3) := by decide +kernel
theorem dX4_canFetch_53 : decode cX4_canFetch 53 = .ok (.iconst 0, 1) := by decide +kernel
theorem dX4_canFetch_54 : decode cX4_canFetch 54 = .ok (.ireturn, 1) := by decide +kernel
def b_X4_canFetch_20 (x1 : Int32) (x2 : Int32) (x3 : Int32) (M : Mem) (rec : Int32 → Bool ⊕ (Int32)) (v4 : Int32) : Bool ⊕ (Int32) :=
  if 2 ≤ v4 then .inr v4
  else if (f_X0_isGood x3 v4 M) then .inl true
  else rec (v4 + 1)
def l_X4_canFetch_20 (x1 : Int32) (x2 : Int32) (x3 : Int32) (M : Mem) : Nat → Int32 → Bool ⊕ (Int32)
  | 0, v4 => .inr v4
  | n + 1, v4 => b_X4_canFetch_20 x1 x2 x3 M (l_X4_canFetch_20 x1 x2 x3 M n) v4
set_option maxRecDepth 100000 in
set_option maxHeartbeats 4000000 in
theorem kl_X4_canFetch_20 (q : ZQ) (x1 : Int32) (x2 : Int32) (x3 : Int32) (M : Mem) {K : Bool ⊕ (Int32) → ZR} (hret : ∀ r : Bool, K (.inl r) = (wB M) r) (hx : ∀ e : Int32, Zg (zgX q) mX4_canFetch 0 0 0 0 (K (.inr e)) 47 [some (.inr 0), some (.inl x1), some (.inl x2), some (.inl x3), some (.inl e)] [] M) :
    ∀ (n : Nat) (v4 : Int32), ((2 : Int32).toInt - (v4 : Int32).toInt).toNat < n → Zg (zgX q) mX4_canFetch 0 0 0 0 (zlet (l_X4_canFetch_20 x1 x2 x3 M n v4) K) 20 [some (.inr 0), some (.inl x1), some (.inl x2), some (.inl x3), some (.inl v4)] [] M := by
  intro n
  induction n with
  | zero => intro v4 hm; exact absurd hm (Nat.not_lt_zero _)
  | succ n ih =>
    intro v4 hm
    show Zg _ _ _ _ _ _ (zlet (b_X4_canFetch_20 x1 x2 x3 M (l_X4_canFetch_20 x1 x2 x3 M n) v4) K) _ _ _ _
    unfold b_X4_canFetch_20
    refine zg_iload (x := v4) dX4_canFetch_20 rfl ?_
    refine zg_iconst (v := 2) dX4_canFetch_22 rfl ?_
    refine zg_icmpz (tgt := 47) dX4_canFetch_23 rfl rfl (fun c23 => ?_) (fun c23 => ?_)
    · refine zg_st (pc' := 47) (L' := [some (.inr 0), some (.inl x1), some (.inl x2), some (.inl x3), some (.inl v4)]) (S' := []) (M' := M) rfl rfl rfl rfl ?_
      refine zg_drop (L' := [some (.inr 0), some (.inl x1), some (.inl x2), some (.inl x3), some (.inl v4)]) ⟨rfl, rfl, rfl, rfl, rfl, trivial⟩ ?_
      exact hx v4
    · refine zg_st (pc' := 26) (L' := [some (.inr 0), some (.inl x1), some (.inl x2), some (.inl x3), some (.inl v4)]) (S' := []) (M' := M) rfl rfl rfl rfl ?_
      refine zg_aload_n (x := 0) dX4_canFetch_26 rfl ?_
      refine zg_getf (v := .inr 1) dX4_canFetch_27 zf_X4_12 rfl rfl rfl ?_
      refine zg_iload_n (x := x3) dX4_canFetch_30 rfl ?_
      refine zg_iload (x := v4) dX4_canFetch_31 rfl ?_
      refine zg_cV1 (As := [.inl x3, .inl v4]) (S := []) (v := bI ((f_X0_isGood x3 v4 M))) dX4_canFetch_33 zk_X4_234 (k_X0_isGood q x3 v4 M) rfl rfl ⟨by decide, by decide⟩ ⟨by decide, by decide⟩ rfl (Nat.le_of_ble_eq_true rfl) ?_
      refine zg_st (pc' := 36) (L' := [some (.inr 0), some (.inl x1), some (.inl x2), some (.inl x3), some (.inl v4)]) (S' := [.inl (bI ((f_X0_isGood x3 v4 M)))]) (M' := M) rfl rfl rfl rfl ?_
      refine zg_ifbe (tgt := 41) dX4_canFetch_36 rfl (fun c36 => ?_) (fun c36 => ?_)
      · refine zg_st (pc' := 39) (L' := [some (.inr 0), some (.inl x1), some (.inl x2), some (.inl x3), some (.inl v4)]) (S' := []) (M' := M) rfl rfl rfl rfl ?_
        refine zg_iconst (v := 1) dX4_canFetch_39 rfl ?_
        exact zg_iret dX4_canFetch_40 rfl rfl ⟨by decide, by decide⟩ (hret _)
      · refine zg_st (pc' := 41) (L' := [some (.inr 0), some (.inl x1), some (.inl x2), some (.inl x3), some (.inl v4)]) (S' := []) (M' := M) rfl rfl rfl rfl ?_
        refine zg_iinc (v := (v4 + 1)) dX4_canFetch_41 rfl (by decide) rfl ?_
        refine zg_st (pc' := 44) (L' := [some (.inr 0), some (.inl x1), some (.inl x2), some (.inl x3), some (.inl (v4 + 1))]) (S' := []) (M' := M) rfl rfl rfl rfl ?_
        refine zg_goto (tgt := 20) dX4_canFetch_44 rfl ?_
        refine zg_st (pc' := 20) (L' := [some (.inr 0), some (.inl x1), some (.inl x2), some (.inl x3), some (.inl (v4 + 1))]) (S' := []) (M' := M) rfl rfl rfl rfl ?_
        refine zg_drop (L' := [some (.inr 0), some (.inl x1), some (.inl x2), some (.inl x3), some (.inl (v4 + 1))]) ⟨rfl, rfl, rfl, rfl, rfl, trivial⟩ ?_
        exact ih (v4 + 1) (z_up c23 hm)
def b_X4_canFetch_2 (x1 : Int32) (M : Mem) (rec : Int32 → Bool ⊕ (Int32)) (v2 : Int32) : Bool ⊕ (Int32) :=
  if 2 ≤ v2 then .inr v2
  else zlet (l_X4_canFetch_20 x1 v2 (f_X3_placeOf x1 v2 M) M 3 0) (fun s1 => Sum.elim (fun r => .inl r) (fun e_s1 =>
  rec (v2 + 1)) s1)
def l_X4_canFetch_2 (x1 : Int32) (M : Mem) : Nat → Int32 → Bool ⊕ (Int32)
  | 0, v2 => .inr v2
  | n + 1, v2 => b_X4_canFetch_2 x1 M (l_X4_canFetch_2 x1 M n) v2
set_option maxRecDepth 100000 in
set_option maxHeartbeats 4000000 in
theorem kl_X4_canFetch_2 (q : ZQ) (x1 : Int32) (M : Mem) {K : Bool ⊕ (Int32) → ZR} (hret : ∀ r : Bool, K (.inl r) = (wB M) r) (hx : ∀ e : Int32, Zg (zgX q) mX4_canFetch 0 0 0 0 (K (.inr e)) 53 [some (.inr 0), some (.inl x1), some (.inl e), none, none] [] M) :
    ∀ (n : Nat) (v2 : Int32), ((2 : Int32).toInt - (v2 : Int32).toInt).toNat < n → Zg (zgX q) mX4_canFetch 0 0 0 0 (zlet (l_X4_canFetch_2 x1 M n v2) K) 2 [some (.inr 0), some (.inl x1), some (.inl v2), none, none] [] M := by
  intro n
  induction n with
  | zero => intro v2 hm; exact absurd hm (Nat.not_lt_zero _)
  | succ n ih =>
    intro v2 hm
    show Zg _ _ _ _ _ _ (zlet (b_X4_canFetch_2 x1 M (l_X4_canFetch_2 x1 M n) v2) K) _ _ _ _
    unfold b_X4_canFetch_2
    refine zg_iload_n (x := v2) dX4_canFetch_2 rfl ?_
    refine zg_iconst (v := 2) dX4_canFetch_3 rfl ?_
    refine zg_icmpz (tgt := 53) dX4_canFetch_4 rfl rfl (fun c4 => ?_) (fun c4 => ?_)
    · refine zg_st (pc' := 53) (L' := [some (.inr 0), some (.inl x1), some (.inl v2), none, none]) (S' := []) (M' := M) rfl rfl rfl rfl ?_
      refine zg_drop (L' := [some (.inr 0), some (.inl x1), some (.inl v2), none, none]) ⟨rfl, rfl, rfl, trivial⟩ ?_
      exact hx v2
    · refine zg_st (pc' := 7) (L' := [some (.inr 0), some (.inl x1), some (.inl v2), none, none]) (S' := []) (M' := M) rfl rfl rfl rfl ?_
      refine zg_aload_n (x := 0) dX4_canFetch_7 rfl ?_
      refine zg_getf (v := .inr 2) dX4_canFetch_8 zf_X4_19 rfl rfl rfl ?_
      refine zg_iload_n (x := x1) dX4_canFetch_11 rfl ?_
      refine zg_iload_n (x := v2) dX4_canFetch_12 rfl ?_
      refine zg_cV1 (As := [.inl x1, .inl v2]) (S := []) (v := (f_X3_placeOf x1 v2 M)) dX4_canFetch_13 zk_X4_209 (k_X3_placeOf q x1 v2 M) rfl rfl ⟨by decide, by decide⟩ ⟨by decide, by decide⟩ rfl (Nat.le_of_ble_eq_true rfl) ?_
      refine zg_st (pc' := 16) (L' := [some (.inr 0), some (.inl x1), some (.inl v2), none, none]) (S' := [.inl (f_X3_placeOf x1 v2 M)]) (M' := M) rfl rfl rfl rfl ?_
      refine zg_istore_n dX4_canFetch_16 (by decide) ?_
      refine zg_st (pc' := 17) (L' := [some (.inr 0), some (.inl x1), some (.inl v2), some (.inl (f_X3_placeOf x1 v2 M)), none]) (S' := []) (M' := M) rfl rfl rfl rfl ?_
      refine zg_iconst (v := 0) dX4_canFetch_17 rfl ?_
      refine zg_istore dX4_canFetch_18 (by decide) ?_
      refine zg_st (pc' := 20) (L' := [some (.inr 0), some (.inl x1), some (.inl v2), some (.inl (f_X3_placeOf x1 v2 M)), some (.inl 0)]) (S' := []) (M' := M) rfl rfl rfl rfl ?_
      refine zg_asc ?_
      refine zg_drop (L' := [some (.inr 0), some (.inl x1), some (.inl v2), some (.inl (f_X3_placeOf x1 v2 M)), some (.inl 0)]) ⟨rfl, rfl, rfl, rfl, rfl, trivial⟩ ?_
      refine kl_X4_canFetch_20 q x1 v2 (f_X3_placeOf x1 v2 M) M ?_ (fun e_s1 => ?_) 3 0 (by decide)
      · exact fun r => hret r
      try dsimp only [Sum.elim_inr]
      refine zg_st (pc' := 47) (L' := [some (.inr 0), some (.inl x1), some (.inl v2), some (.inl (f_X3_placeOf x1 v2 M)), some (.inl e_s1)]) (S' := []) (M' := M) rfl rfl rfl rfl ?_
      refine zg_iinc (v := (v2 + 1)) dX4_canFetch_47 rfl (by decide) rfl ?_
      refine zg_st (pc' := 50) (L' := [some (.inr 0), some (.inl x1), some (.inl (v2 + 1)), some (.inl (f_X3_placeOf x1 v2 M)), some (.inl e_s1)]) (S' := []) (M' := M) rfl rfl rfl rfl ?_
      refine zg_goto (tgt := 2) dX4_canFetch_50 rfl ?_
      refine zg_st (pc' := 2) (L' := [some (.inr 0), some (.inl x1), some (.inl (v2 + 1)), some (.inl (f_X3_placeOf x1 v2 M)), some (.inl e_s1)]) (S' := []) (M' := M) rfl rfl rfl rfl ?_
      refine zg_drop (L' := [some (.inr 0), some (.inl x1), some (.inl (v2 + 1)), none, none]) ⟨rfl, rfl, rfl, trivial⟩ ?_
      exact ih (v2 + 1) (z_up c4 hm)
def f_X4_canFetch (p1 : Int32) (M : Mem) : Bool :=
  zlet (l_X4_canFetch_2 p1 M 3 0) (fun s2 => Sum.elim (fun r => r) (fun e_s2 =>
  false) s2)
set_option maxRecDepth 100000 in
set_option maxHeartbeats 4000000 in
theorem k_X4_canFetch (q : ZQ) (p1 : Int32) (M : Mem) : Zc (zgX q) mX4_canFetch 0 0 [.inr 0, .inl p1] M (wB M (f_X4_canFetch p1 M)) := by
  refine Zc.of (by decide) zi_X4_canFetch.1 (Nat.le_of_ble_eq_true rfl) rfl ?_
  show Zg _ _ _ _ _ _ (zlet (f_X4_canFetch p1 M) (wB M)) _ _ _ _
  unfold f_X4_canFetch
  refine zg_iconst (v := 0) dX4_canFetch_0 rfl ?_
  refine zg_istore_n dX4_canFetch_1 (by decide) ?_
  refine zg_st (pc' := 2) (L' := [some (.inr 0), some (.inl p1), some (.inl 0), none, none]) (S' := []) (M' := M) rfl rfl rfl rfl ?_
  refine zg_asc ?_
  refine zg_drop (L' := [some (.inr 0), some (.inl p1), some (.inl 0), none, none]) ⟨rfl, rfl, rfl, trivial⟩ ?_
  refine kl_X4_canFetch_2 q p1 M ?_ (fun e_s2 => ?_) 3 0 (by decide)
  · exact fun r => rfl
  try dsimp only [Sum.elim_inr]
  refine zg_st (pc' := 53) (L' := [some (.inr 0), some (.inl p1), some (.inl e_s2), none, none]) (S' := []) (M' := M) rfl rfl rfl rfl ?_
  refine zg_iconst (v := 0) dX4_canFetch_53 rfl ?_
  exact zg_iret dX4_canFetch_54 rfl rfl ⟨by decide, by decide⟩ rfl
theorem dX4_isUnreadable_0 : decode cX4_isUnreadable 0 = .ok (.aload_n 0, 1) := by decide +kernel
theorem dX4_isUnreadable_1 : decode cX4_isUnreadable 1 = .ok (.getfield 19, 3) := by decide +kernel
theorem dX4_isUnreadable_4 : decode cX4_isUnreadable 4 = .ok (.iload_n 1, 1) := by decide +kernel
theorem dX4_isUnreadable_5 : decode cX4_isUnreadable 5 = .ok (.invokevirtual 203, 3) := by decide +kernel
theorem dX4_isUnreadable_8 : decode cX4_isUnreadable 8 = .ok (.ifCond .ne 15, 3) := by decide +kernel
theorem dX4_isUnreadable_11 : decode cX4_isUnreadable 11 = .ok (.aload_n 0, 1) := by decide +kernel
theorem dX4_isUnreadable_12 : decode cX4_isUnreadable 12 = .ok (.iload_n 1, 1) := by decide +kernel
theorem dX4_isUnreadable_13 : decode cX4_isUnreadable 13 = .ok (.invokevirtual 194, 3) := by decide +kernel
theorem dX4_isUnreadable_16 : decode cX4_isUnreadable 16 = .ok (.ifCond .ne 7, 3) := by decide +kernel
theorem dX4_isUnreadable_19 : decode cX4_isUnreadable 19 = .ok (.iconst 1, 1) := by decide +kernel
theorem dX4_isUnreadable_20 : decode cX4_isUnreadable 20 = .ok (.goto 4, 3) := by decide +kernel
theorem dX4_isUnreadable_23 : decode cX4_isUnreadable 23 = .ok (.iconst 0, 1) := by decide +kernel
theorem dX4_isUnreadable_24 : decode cX4_isUnreadable 24 = .ok (.ireturn, 1) := by decide +kernel
def f_X4_isUnreadable (p1 : Int32) (M : Mem) : Bool :=
  if (f_X3_isMissing p1 M) then false
  else if (f_X4_canFetch p1 M) then false
  else true
set_option maxRecDepth 100000 in
set_option maxHeartbeats 4000000 in
theorem k_X4_isUnreadable (q : ZQ) (p1 : Int32) (M : Mem) : Zc (zgX q) mX4_isUnreadable 0 0 [.inr 0, .inl p1] M (wB M (f_X4_isUnreadable p1 M)) := by
  refine Zc.of (by decide) zi_X4_isUnreadable.1 (Nat.le_of_ble_eq_true rfl) rfl ?_
  show Zg _ _ _ _ _ _ (zlet (f_X4_isUnreadable p1 M) (wB M)) _ _ _ _
  unfold f_X4_isUnreadable
  refine zg_aload_n (x := 0) dX4_isUnreadable_0 rfl ?_
  refine zg_getf (v := .inr 2) dX4_isUnreadable_1 zf_X4_19 rfl rfl rfl ?_
  refine zg_iload_n (x := p1) dX4_isUnreadable_4 rfl ?_
  refine zg_cV1 (As := [.inl p1]) (S := []) (v := bI ((f_X3_isMissing p1 M))) dX4_isUnreadable_5 zk_X4_203 (k_X3_isMissing q p1 M) rfl rfl ⟨by decide, by decide⟩ ⟨by decide, by decide⟩ rfl (Nat.le_of_ble_eq_true rfl) ?_
  refine zg_st (pc' := 8) (L' := [some (.inr 0), some (.inl p1)]) (S' := [.inl (bI ((f_X3_isMissing p1 M)))]) (M' := M) rfl rfl rfl rfl ?_
  refine zg_ifbn (tgt := 23) dX4_isUnreadable_8 rfl (fun c8 => ?_) (fun c8 => ?_)
  · refine zg_st (pc' := 23) (L' := [some (.inr 0), some (.inl p1)]) (S' := []) (M' := M) rfl rfl rfl rfl ?_
    refine zg_iconst (v := 0) dX4_isUnreadable_23 rfl ?_
    exact zg_iret dX4_isUnreadable_24 rfl rfl ⟨by decide, by decide⟩ rfl
  · refine zg_st (pc' := 11) (L' := [some (.inr 0), some (.inl p1)]) (S' := []) (M' := M) rfl rfl rfl rfl ?_
    refine zg_aload_n (x := 0) dX4_isUnreadable_11 rfl ?_
    refine zg_iload_n (x := p1) dX4_isUnreadable_12 rfl ?_
    refine zg_cV1 (As := [.inl p1]) (S := []) (v := bI ((f_X4_canFetch p1 M))) dX4_isUnreadable_13 zk_X4_194 (k_X4_canFetch q p1 M) rfl rfl ⟨by decide, by decide⟩ ⟨by decide, by decide⟩ rfl (Nat.le_of_ble_eq_true rfl) ?_
    refine zg_st (pc' := 16) (L' := [some (.inr 0), some (.inl p1)]) (S' := [.inl (bI ((f_X4_canFetch p1 M)))]) (M' := M) rfl rfl rfl rfl ?_
    refine zg_ifbn (tgt := 23) dX4_isUnreadable_16 rfl (fun c16 => ?_) (fun c16 => ?_)
    · refine zg_st (pc' := 23) (L' := [some (.inr 0), some (.inl p1)]) (S' := []) (M' := M) rfl rfl rfl rfl ?_
      refine zg_iconst (v := 0) dX4_isUnreadable_23 rfl ?_
      exact zg_iret dX4_isUnreadable_24 rfl rfl ⟨by decide, by decide⟩ rfl
    · refine zg_st (pc' := 19) (L' := [some (.inr 0), some (.inl p1)]) (S' := []) (M' := M) rfl rfl rfl rfl ?_
      refine zg_iconst (v := 1) dX4_isUnreadable_19 rfl ?_
      refine zg_goto (tgt := 24) dX4_isUnreadable_20 rfl ?_
      refine zg_st (pc' := 24) (L' := [some (.inr 0), some (.inl p1)]) (S' := [.inl 1]) (M' := M) rfl rfl rfl rfl ?_
      exact zg_iret dX4_isUnreadable_24 rfl rfl ⟨by decide, by decide⟩ rfl
theorem dX4_healUpToGoodCell_0 : decode cX4_healUpToGoodCell 0 = .ok (.iconst 0, 1) := by decide +kernel
theorem dX4_healUpToGoodCell_1 : decode cX4_healUpToGoodCell 1 = .ok (.istore_n 2, 1) := by decide +kernel
theorem dX4_healUpToGoodCell_2 : decode cX4_healUpToGoodCell 2 = .ok (.iconst 0, 1) := by decide +kernel
theorem dX4_healUpToGoodCell_3 : decode cX4_healUpToGoodCell 3 = .ok (.istore_n 3, 1) := by decide +kernel
theorem dX4_healUpToGoodCell_4 : decode cX4_healUpToGoodCell 4 = .ok (.iload_n 3, 1) := by decide +kernel
theorem dX4_healUpToGoodCell_5 : decode cX4_healUpToGoodCell 5 = .ok (.iconst 2, 1) := by decide +kernel
theorem dX4_healUpToGoodCell_6 : decode cX4_healUpToGoodCell 6 = .ok (.if_icmp .ge 65, 3) := by decide +kernel
theorem dX4_healUpToGoodCell_9 : decode cX4_healUpToGoodCell 9 = .ok (.aload_n 0, 1) := by decide +kernel
theorem dX4_healUpToGoodCell_10 : decode cX4_healUpToGoodCell 10 = .ok (.getfield 19, 3) := by decide +kernel
theorem dX4_healUpToGoodCell_13 : decode cX4_healUpToGoodCell 13 = .ok (.iload_n 1, 1) := by decide +kernel
theorem dX4_healUpToGoodCell_14 : decode cX4_healUpToGoodCell 14 = .ok (.iload_n 3, 1) := by decide +kernel
theorem dX4_healUpToGoodCell_15 : decode cX4_healUpToGoodCell 15 = .ok (.invokevirtual 209, 3) := by decide +kernel
theorem dX4_healUpToGoodCell_18 : decode cX4_healUpToGoodCell 18 = .ok (.istore 4, 2) := by decide +kernel
theorem dX4_healUpToGoodCell_20 : decode cX4_healUpToGoodCell 20 = .ok (.iconst 0, 1) := by decide +kernel
theorem dX4_healUpToGoodCell_21 : decode cX4_healUpToGoodCell 21 = .ok (.istore 5, 2) := by decide +kernel
theorem dX4_healUpToGoodCell_23 : decode cX4_healUpToGoodCell 23 = .ok (.iload 5, 2) := by decide +kernel
theorem dX4_healUpToGoodCell_25 : decode cX4_healUpToGoodCell 25 = .ok (.iconst 2, 1) := by decide +kernel
theorem dX4_healUpToGoodCell_26 : decode cX4_healUpToGoodCell 26 = .ok (.if_icmp .ge 39, 3) := by decide +kernel
theorem dX4_healUpToGoodCell_29 : decode cX4_healUpToGoodCell 29 = .ok (.aload_n 0, 1) := by decide +kernel
theorem dX4_healUpToGoodCell_30 : decode cX4_healUpToGoodCell 30 = .ok (.getfield 12, 3) := by decide +kernel
theorem dX4_healUpToGoodCell_33 : decode cX4_healUpToGoodCell 33 = .ok (.iload 4, 2) := by decide +kernel
theorem dX4_healUpToGoodCell_35 : decode cX4_healUpToGoodCell 35 = .ok (.iload 5, 2) := by decide +kernel
theorem dX4_healUpToGoodCell_37 : decode cX4_healUpToGoodCell 37 = .ok (.invokevirtual 234, 3) := by decide +kernel
theorem dX4_healUpToGoodCell_40 : decode cX4_healUpToGoodCell 40 = .ok (.ifCond .eq 5, 3) := by decide +kernel
theorem dX4_healUpToGoodCell_43 : decode cX4_healUpToGoodCell 43 = .ok (.iload_n 2, 1) := by decide +kernel
theorem dX4_healUpToGoodCell_44 : decode cX4_healUpToGoodCell 44 = .ok (.ireturn, 1) := by decide +kernel
theorem dX4_healUpToGoodCell_45 : decode cX4_healUpToGoodCell 45 = .ok (.iload_n 2, 1) := by decide +kernel
theorem dX4_healUpToGoodCell_46 : decode cX4_healUpToGoodCell 46 = .ok (.aload_n 0, 1) := by decide +kernel
theorem dX4_healUpToGoodCell_47 : decode cX4_healUpToGoodCell 47 = .ok (.getfield 12, 3) := by decide +kernel
theorem dX4_healUpToGoodCell_50 : decode cX4_healUpToGoodCell 50 = .ok (.iload 4, 2) := by decide +kernel
theorem dX4_healUpToGoodCell_52 : decode cX4_healUpToGoodCell 52 = .ok (.iload 5, 2) := by decide +kernel
theorem dX4_healUpToGoodCell_54 : decode cX4_healUpToGoodCell 54 = .ok (.invokevirtual 237, 3) := by decide +kernel
theorem dX4_healUpToGoodCell_57 : decode cX4_healUpToGoodCell 57 = .ok (.iadd, 1) := by decide +kernel
theorem dX4_healUpToGoodCell_58 : decode cX4_healUpToGoodCell 58 = .ok (.istore_n 2, 1) := by decide +kernel
theorem dX4_healUpToGoodCell_59 : decode cX4_healUpToGoodCell 59 = .ok (.iinc 5 1, 3) := by decide +kernel
theorem dX4_healUpToGoodCell_62 : decode cX4_healUpToGoodCell 62 = .ok (.goto (-39), 3) := by decide +kernel
theorem dX4_healUpToGoodCell_65 : decode cX4_healUpToGoodCell 65 = .ok (.iinc 3 1, 3) := by decide +kernel
theorem dX4_healUpToGoodCell_68 : decode cX4_healUpToGoodCell 68 = .ok (.goto (-64), 3) := by decide +kernel
theorem dX4_healUpToGoodCell_71 : decode cX4_healUpToGoodCell 71 = .ok (.iload_n 2, 1) := by decide +kernel
theorem dX4_healUpToGoodCell_72 : decode cX4_healUpToGoodCell 72 = .ok (.ireturn, 1) := by decide +kernel
def b_X4_healUpToGoodCell_23 (x1 : Int32) (x3 : Int32) (x4 : Int32) (rec : Int32 → Int32 → Mem → (Int32 × Mem) ⊕ (Int32 × Int32 × Mem)) (v2 : Int32) (v5 : Int32) (N : Mem) : (Int32 × Mem) ⊕ (Int32 × Int32 × Mem) :=
  if 2 ≤ v5 then .inr (v2, v5, N)
  else if (f_X0_isGood x4 v5 N) then .inl (v2, N)
  else zlet (f_X0_heal x4 v5 N) (fun q1 =>
  rec (v2 + q1.1) (v5 + 1) q1.2)
def l_X4_healUpToGoodCell_23 (x1 : Int32) (x3 : Int32) (x4 : Int32) : Nat → Int32 → Int32 → Mem → (Int32 × Mem) ⊕ (Int32 × Int32 × Mem)
  | 0, v2, v5, N => .inr (v2, v5, N)
  | n + 1, v2, v5, N => b_X4_healUpToGoodCell_23 x1 x3 x4 (l_X4_healUpToGoodCell_23 x1 x3 x4 n) v2 v5 N
set_option maxRecDepth 100000 in
set_option maxHeartbeats 4000000 in
theorem kl_X4_healUpToGoodCell_23 (q : ZQ) (x1 : Int32) (x3 : Int32) (x4 : Int32) {K : (Int32 × Mem) ⊕ (Int32 × Int32 × Mem) → ZR} (hret : ∀ r : (Int32 × Mem), K (.inl r) = wIM r) (hx : ∀ e : Int32 × Int32 × Mem, Zg (zgX q) mX4_healUpToGoodCell 0 0 0 0 (K (.inr e)) 65 [some (.inr 0), some (.inl x1), some (.inl e.1), some (.inl x3), some (.inl x4), some (.inl e.2.1)] [] e.2.2) :
    ∀ (n : Nat) (v2 : Int32) (v5 : Int32) (N : Mem), ((2 : Int32).toInt - (v5 : Int32).toInt).toNat < n → Zg (zgX q) mX4_healUpToGoodCell 0 0 0 0 (zlet (l_X4_healUpToGoodCell_23 x1 x3 x4 n v2 v5 N) K) 23 [some (.inr 0), some (.inl x1), some (.inl v2), some (.inl x3), some (.inl x4), some (.inl v5)] [] N := by
  intro n
  induction n with
  | zero => intro v2 v5 N hm; exact absurd hm (Nat.not_lt_zero _)
  | succ n ih =>
    intro v2 v5 N hm
    show Zg _ _ _ _ _ _ (zlet (b_X4_healUpToGoodCell_23 x1 x3 x4 (l_X4_healUpToGoodCell_23 x1 x3 x4 n) v2 v5 N) K) _ _ _ _
    unfold b_X4_healUpToGoodCell_23
    refine zg_iload (x := v5) dX4_healUpToGoodCell_23 rfl ?_
    refine zg_iconst (v := 2) dX4_healUpToGoodCell_25 rfl ?_
    refine zg_icmpz (tgt := 65) dX4_healUpToGoodCell_26 rfl rfl (fun c26 => ?_) (fun c26 => ?_)
    · refine zg_st (pc' := 65) (L' := [some (.inr 0), some (.inl x1), some (.inl v2), some (.inl x3), some (.inl x4), some (.inl v5)]) (S' := []) (M' := N) rfl rfl rfl rfl ?_
      refine zg_drop (L' := [some (.inr 0), some (.inl x1), some (.inl v2), some (.inl x3), some (.inl x4), some (.inl v5)]) ⟨rfl, rfl, rfl, rfl, rfl, rfl, trivial⟩ ?_
      exact hx (v2, v5, N)
    · refine zg_st (pc' := 29) (L' := [some (.inr 0), some (.inl x1), some (.inl v2), some (.inl x3), some (.inl x4), some (.inl v5)]) (S' := []) (M' := N) rfl rfl rfl rfl ?_
      refine zg_aload_n (x := 0) dX4_healUpToGoodCell_29 rfl ?_
      refine zg_getf (v := .inr 1) dX4_healUpToGoodCell_30 zf_X4_12 rfl rfl rfl ?_
      refine zg_iload (x := x4) dX4_healUpToGoodCell_33 rfl ?_
      refine zg_iload (x := v5) dX4_healUpToGoodCell_35 rfl ?_
      refine zg_cV1 (As := [.inl x4, .inl v5]) (S := []) (v := bI ((f_X0_isGood x4 v5 N))) dX4_healUpToGoodCell_37 zk_X4_234 (k_X0_isGood q x4 v5 N) rfl rfl ⟨by decide, by decide⟩ ⟨by decide, by decide⟩ rfl (Nat.le_of_ble_eq_true rfl) ?_
      refine zg_st (pc' := 40) (L' := [some (.inr 0), some (.inl x1), some (.inl v2), some (.inl x3), some (.inl x4), some (.inl v5)]) (S' := [.inl (bI ((f_X0_isGood x4 v5 N)))]) (M' := N) rfl rfl rfl rfl ?_
      refine zg_ifbe (tgt := 45) dX4_healUpToGoodCell_40 rfl (fun c40 => ?_) (fun c40 => ?_)
      · refine zg_st (pc' := 43) (L' := [some (.inr 0), some (.inl x1), some (.inl v2), some (.inl x3), some (.inl x4), some (.inl v5)]) (S' := []) (M' := N) rfl rfl rfl rfl ?_
        refine zg_iload_n (x := v2) dX4_healUpToGoodCell_43 rfl ?_
        exact zg_iret dX4_healUpToGoodCell_44 rfl rfl ⟨by decide, by decide⟩ (hret _)
      · refine zg_st (pc' := 45) (L' := [some (.inr 0), some (.inl x1), some (.inl v2), some (.inl x3), some (.inl x4), some (.inl v5)]) (S' := []) (M' := N) rfl rfl rfl rfl ?_
        refine zg_iload_n (x := v2) dX4_healUpToGoodCell_45 rfl ?_
        refine zg_aload_n (x := 0) dX4_healUpToGoodCell_46 rfl ?_
        refine zg_getf (v := .inr 1) dX4_healUpToGoodCell_47 zf_X4_12 rfl rfl rfl ?_
        refine zg_iload (x := x4) dX4_healUpToGoodCell_50 rfl ?_
        refine zg_iload (x := v5) dX4_healUpToGoodCell_52 rfl ?_
        refine zg_cVIM (As := [.inl x4, .inl v5]) (S := [.inl v2]) dX4_healUpToGoodCell_54 zk_X4_237 (k_X0_heal q x4 v5 N) rfl rfl ⟨by decide, by decide⟩ ⟨by decide, by decide⟩ rfl (Nat.le_of_ble_eq_true rfl) (fun q1 e_q1 => ?_)
        try dsimp only
        refine zg_st (pc' := 57) (L' := [some (.inr 0), some (.inl x1), some (.inl v2), some (.inl x3), some (.inl x4), some (.inl v5)]) (S' := [.inl q1.1, .inl v2]) (M' := q1.2) rfl rfl rfl rfl ?_
        refine zg_iadd dX4_healUpToGoodCell_57 ?_
        refine zg_istore_n dX4_healUpToGoodCell_58 (by decide) ?_
        refine zg_st (pc' := 59) (L' := [some (.inr 0), some (.inl x1), some (.inl (v2 + q1.1)), some (.inl x3), some (.inl x4), some (.inl v5)]) (S' := []) (M' := q1.2) rfl rfl rfl rfl ?_
        refine zg_iinc (v := (v5 + 1)) dX4_healUpToGoodCell_59 rfl (by decide) rfl ?_
        refine zg_st (pc' := 62) (L' := [some (.inr 0), some (.inl x1), some (.inl (v2 + q1.1)), some (.inl x3), some (.inl x4), some (.inl (v5 + 1))]) (S' := []) (M' := q1.2) rfl rfl rfl rfl ?_
        refine zg_goto (tgt := 23) dX4_healUpToGoodCell_62 rfl ?_
        refine zg_st (pc' := 23) (L' := [some (.inr 0), some (.inl x1), some (.inl (v2 + q1.1)), some (.inl x3), some (.inl x4), some (.inl (v5 + 1))]) (S' := []) (M' := q1.2) rfl rfl rfl rfl ?_
        refine zg_drop (L' := [some (.inr 0), some (.inl x1), some (.inl (v2 + q1.1)), some (.inl x3), some (.inl x4), some (.inl (v5 + 1))]) ⟨rfl, rfl, rfl, rfl, rfl, rfl, trivial⟩ ?_
        exact ih (v2 + q1.1) (v5 + 1) q1.2 (z_up c26 hm)
def b_X4_healUpToGoodCell_4 (x1 : Int32) (rec : Int32 → Int32 → Mem → (Int32 × Mem) ⊕ (Int32 × Int32 × Mem)) (v2 : Int32) (v3 : Int32) (N : Mem) : (Int32 × Mem) ⊕ (Int32 × Int32 × Mem) :=
  if 2 ≤ v3 then .inr (v2, v3, N)
  else zlet (l_X4_healUpToGoodCell_23 x1 v3 (f_X3_placeOf x1 v3 N) 3 v2 0 N) (fun s2 => Sum.elim (fun r => .inl r) (fun e_s2 =>
  rec e_s2.1 (v3 + 1) e_s2.2.2) s2)
def l_X4_healUpToGoodCell_4 (x1 : Int32) : Nat → Int32 → Int32 → Mem → (Int32 × Mem) ⊕ (Int32 × Int32 × Mem)
  | 0, v2, v3, N => .inr (v2, v3, N)
  | n + 1, v2, v3, N => b_X4_healUpToGoodCell_4 x1 (l_X4_healUpToGoodCell_4 x1 n) v2 v3 N
set_option maxRecDepth 100000 in
set_option maxHeartbeats 4000000 in
theorem kl_X4_healUpToGoodCell_4 (q : ZQ) (x1 : Int32) {K : (Int32 × Mem) ⊕ (Int32 × Int32 × Mem) → ZR} (hret : ∀ r : (Int32 × Mem), K (.inl r) = wIM r) (hx : ∀ e : Int32 × Int32 × Mem, Zg (zgX q) mX4_healUpToGoodCell 0 0 0 0 (K (.inr e)) 71 [some (.inr 0), some (.inl x1), some (.inl e.1), some (.inl e.2.1), none, none] [] e.2.2) :
    ∀ (n : Nat) (v2 : Int32) (v3 : Int32) (N : Mem), ((2 : Int32).toInt - (v3 : Int32).toInt).toNat < n → Zg (zgX q) mX4_healUpToGoodCell 0 0 0 0 (zlet (l_X4_healUpToGoodCell_4 x1 n v2 v3 N) K) 4 [some (.inr 0), some (.inl x1), some (.inl v2), some (.inl v3), none, none] [] N := by
  intro n
  induction n with
  | zero => intro v2 v3 N hm; exact absurd hm (Nat.not_lt_zero _)
  | succ n ih =>
    intro v2 v3 N hm
    show Zg _ _ _ _ _ _ (zlet (b_X4_healUpToGoodCell_4 x1 (l_X4_healUpToGoodCell_4 x1 n) v2 v3 N) K) _ _ _ _
    unfold b_X4_healUpToGoodCell_4
    refine zg_iload_n (x := v3) dX4_healUpToGoodCell_4 rfl ?_
    refine zg_iconst (v := 2) dX4_healUpToGoodCell_5 rfl ?_
    refine zg_icmpz (tgt := 71) dX4_healUpToGoodCell_6 rfl rfl (fun c6 => ?_) (fun c6 => ?_)
    · refine zg_st (pc' := 71) (L' := [some (.inr 0), some (.inl x1), some (.inl v2), some (.inl v3), none, none]) (S' := []) (M' := N) rfl rfl rfl rfl ?_
      refine zg_drop (L' := [some (.inr 0), some (.inl x1), some (.inl v2), some (.inl v3), none, none]) ⟨rfl, rfl, rfl, rfl, trivial⟩ ?_
      exact hx (v2, v3, N)
    · refine zg_st (pc' := 9) (L' := [some (.inr 0), some (.inl x1), some (.inl v2), some (.inl v3), none, none]) (S' := []) (M' := N) rfl rfl rfl rfl ?_
      refine zg_aload_n (x := 0) dX4_healUpToGoodCell_9 rfl ?_
      refine zg_getf (v := .inr 2) dX4_healUpToGoodCell_10 zf_X4_19 rfl rfl rfl ?_
      refine zg_iload_n (x := x1) dX4_healUpToGoodCell_13 rfl ?_
      refine zg_iload_n (x := v3) dX4_healUpToGoodCell_14 rfl ?_
      refine zg_cV1 (As := [.inl x1, .inl v3]) (S := []) (v := (f_X3_placeOf x1 v3 N)) dX4_healUpToGoodCell_15 zk_X4_209 (k_X3_placeOf q x1 v3 N) rfl rfl ⟨by decide, by decide⟩ ⟨by decide, by decide⟩ rfl (Nat.le_of_ble_eq_true rfl) ?_
      refine zg_st (pc' := 18) (L' := [some (.inr 0), some (.inl x1), some (.inl v2), some (.inl v3), none, none]) (S' := [.inl (f_X3_placeOf x1 v3 N)]) (M' := N) rfl rfl rfl rfl ?_
      refine zg_istore dX4_healUpToGoodCell_18 (by decide) ?_
      refine zg_st (pc' := 20) (L' := [some (.inr 0), some (.inl x1), some (.inl v2), some (.inl v3), some (.inl (f_X3_placeOf x1 v3 N)), none]) (S' := []) (M' := N) rfl rfl rfl rfl ?_
      refine zg_iconst (v := 0) dX4_healUpToGoodCell_20 rfl ?_
      refine zg_istore dX4_healUpToGoodCell_21 (by decide) ?_
      refine zg_st (pc' := 23) (L' := [some (.inr 0), some (.inl x1), some (.inl v2), some (.inl v3), some (.inl (f_X3_placeOf x1 v3 N)), some (.inl 0)]) (S' := []) (M' := N) rfl rfl rfl rfl ?_
      refine zg_asc ?_
      refine zg_drop (L' := [some (.inr 0), some (.inl x1), some (.inl v2), some (.inl v3), some (.inl (f_X3_placeOf x1 v3 N)), some (.inl 0)]) ⟨rfl, rfl, rfl, rfl, rfl, rfl, trivial⟩ ?_
      refine kl_X4_healUpToGoodCell_23 q x1 v3 (f_X3_placeOf x1 v3 N)  ?_ (fun e_s2 => ?_) 3 v2 0 N (by decide)
      · exact fun r => hret r
      try dsimp only [Sum.elim_inr]
      refine zg_st (pc' := 65) (L' := [some (.inr 0), some (.inl x1), some (.inl e_s2.1), some (.inl v3), some (.inl (f_X3_placeOf x1 v3 N)), some (.inl e_s2.2.1)]) (S' := []) (M' := e_s2.2.2) rfl rfl rfl rfl ?_
      refine zg_iinc (v := (v3 + 1)) dX4_healUpToGoodCell_65 rfl (by decide) rfl ?_
      refine zg_st (pc' := 68) (L' := [some (.inr 0), some (.inl x1), some (.inl e_s2.1), some (.inl (v3 + 1)), some (.inl (f_X3_placeOf x1 v3 N)), some (.inl e_s2.2.1)]) (S' := []) (M' := e_s2.2.2) rfl rfl rfl rfl ?_
      refine zg_goto (tgt := 4) dX4_healUpToGoodCell_68 rfl ?_
      refine zg_st (pc' := 4) (L' := [some (.inr 0), some (.inl x1), some (.inl e_s2.1), some (.inl (v3 + 1)), some (.inl (f_X3_placeOf x1 v3 N)), some (.inl e_s2.2.1)]) (S' := []) (M' := e_s2.2.2) rfl rfl rfl rfl ?_
      refine zg_drop (L' := [some (.inr 0), some (.inl x1), some (.inl e_s2.1), some (.inl (v3 + 1)), none, none]) ⟨rfl, rfl, rfl, rfl, trivial⟩ ?_
      exact ih e_s2.1 (v3 + 1) e_s2.2.2 (z_up c6 hm)
def f_X4_healUpToGoodCell (p1 : Int32) (M : Mem) : (Int32 × Mem) :=
  zlet (l_X4_healUpToGoodCell_4 p1 3 0 0 M) (fun s3 => Sum.elim (fun r => r) (fun e_s3 =>
  (e_s3.1, e_s3.2.2)) s3)
set_option maxRecDepth 100000 in
set_option maxHeartbeats 4000000 in
theorem k_X4_healUpToGoodCell (q : ZQ) (p1 : Int32) (M : Mem) : Zc (zgX q) mX4_healUpToGoodCell 0 0 [.inr 0, .inl p1] M (wIM (f_X4_healUpToGoodCell p1 M)) := by
  refine Zc.of (by decide) zi_X4_healUpToGoodCell.1 (Nat.le_of_ble_eq_true rfl) rfl ?_
  show Zg _ _ _ _ _ _ (zlet (f_X4_healUpToGoodCell p1 M) wIM) _ _ _ _
  unfold f_X4_healUpToGoodCell
  refine zg_iconst (v := 0) dX4_healUpToGoodCell_0 rfl ?_
  refine zg_istore_n dX4_healUpToGoodCell_1 (by decide) ?_
  refine zg_st (pc' := 2) (L' := [some (.inr 0), some (.inl p1), some (.inl 0), none, none, none]) (S' := []) (M' := M) rfl rfl rfl rfl ?_
  refine zg_iconst (v := 0) dX4_healUpToGoodCell_2 rfl ?_
  refine zg_istore_n dX4_healUpToGoodCell_3 (by decide) ?_
  refine zg_st (pc' := 4) (L' := [some (.inr 0), some (.inl p1), some (.inl 0), some (.inl 0), none, none]) (S' := []) (M' := M) rfl rfl rfl rfl ?_
  refine zg_asc ?_
  refine zg_drop (L' := [some (.inr 0), some (.inl p1), some (.inl 0), some (.inl 0), none, none]) ⟨rfl, rfl, rfl, rfl, trivial⟩ ?_
  refine kl_X4_healUpToGoodCell_4 q p1  ?_ (fun e_s3 => ?_) 3 0 0 M (by decide)
  · exact fun r => rfl
  try dsimp only [Sum.elim_inr]
  refine zg_st (pc' := 71) (L' := [some (.inr 0), some (.inl p1), some (.inl e_s3.1), some (.inl e_s3.2.1), none, none]) (S' := []) (M' := e_s3.2.2) rfl rfl rfl rfl ?_
  refine zg_iload_n (x := e_s3.1) dX4_healUpToGoodCell_71 rfl ?_
  exact zg_iret dX4_healUpToGoodCell_72 rfl rfl ⟨by decide, by decide⟩ rfl
theorem dX4_hasData_0 : decode cX4_hasData 0 = .ok (.iconst 0, 1) := by decide +kernel
theorem dX4_hasData_1 : decode cX4_hasData 1 = .ok (.istore_n 2, 1) := by decide +kernel
theorem dX4_hasData_2 : decode cX4_hasData 2 = .ok (.iload_n 2, 1) := by decide +kernel
theorem dX4_hasData_3 : decode cX4_hasData 3 = .ok (.bipush 12, 2) := by decide +kernel
theorem dX4_hasData_5 : decode cX4_hasData 5 = .ok (.if_icmp .ge 20, 3) := by decide +kernel
theorem dX4_hasData_8 : decode cX4_hasData 8 = .ok (.aload_n 0, 1) := by decide +kernel
theorem dX4_hasData_9 : decode cX4_hasData 9 = .ok (.iload_n 1, 1) := by decide +kernel
theorem dX4_hasData_10 : decode cX4_hasData 10 = .ok (.iload_n 2, 1) := by decide +kernel
theorem dX4_hasData_11 : decode cX4_hasData 11 = .ok (.invokevirtual 62, 3) := by decide +kernel
theorem dX4_hasData_14 : decode cX4_hasData 14 = .ok (.ifCond .eq 5, 3) := by decide +kernel
theorem dX4_hasData_17 : decode cX4_hasData 17 = .ok (.iconst 1, 1) := by decide +kernel
theorem dX4_hasData_18 : decode cX4_hasData 18 = .ok (.ireturn, 1) := by decide +kernel
theorem dX4_hasData_19 : decode cX4_hasData 19 = .ok (.iinc 2 1, 3) := by decide +kernel
theorem dX4_hasData_22 : decode cX4_hasData 22 = .ok (.goto (-20), 3) := by decide +kernel
theorem dX4_hasData_25 : decode cX4_hasData 25 = .ok (.iconst 0, 1) := by decide +kernel
theorem dX4_hasData_26 : decode cX4_hasData 26 = .ok (.ireturn, 1) := by decide +kernel
def b_X4_hasData_2 (x1 : Int32) (M : Mem) (rec : Int32 → Bool ⊕ (Int32)) (v2 : Int32) : Bool ⊕ (Int32) :=
  if 12 ≤ v2 then .inr v2
  else if (f_X4_valueNow x1 v2 M) = 0 then rec (v2 + 1)
  else .inl true
def l_X4_hasData_2 (x1 : Int32) (M : Mem) : Nat → Int32 → Bool ⊕ (Int32)
  | 0, v2 => .inr v2
  | n + 1, v2 => b_X4_hasData_2 x1 M (l_X4_hasData_2 x1 M n) v2
set_option maxRecDepth 100000 in
set_option maxHeartbeats 4000000 in
theorem kl_X4_hasData_2 (q : ZQ) (x1 : Int32) (M : Mem) {K : Bool ⊕ (Int32) → ZR} (hret : ∀ r : Bool, K (.inl r) = (wB M) r) (hx : ∀ e : Int32, Zg (zgX q) mX4_hasData 0 0 0 0 (K (.inr e)) 25 [some (.inr 0), some (.inl x1), some (.inl e)] [] M) :
    ∀ (n : Nat) (v2 : Int32), ((12 : Int32).toInt - (v2 : Int32).toInt).toNat < n → Zg (zgX q) mX4_hasData 0 0 0 0 (zlet (l_X4_hasData_2 x1 M n v2) K) 2 [some (.inr 0), some (.inl x1), some (.inl v2)] [] M := by
  intro n
  induction n with
  | zero => intro v2 hm; exact absurd hm (Nat.not_lt_zero _)
  | succ n ih =>
    intro v2 hm
    show Zg _ _ _ _ _ _ (zlet (b_X4_hasData_2 x1 M (l_X4_hasData_2 x1 M n) v2) K) _ _ _ _
    unfold b_X4_hasData_2
    refine zg_iload_n (x := v2) dX4_hasData_2 rfl ?_
    refine zg_bipush (v := 12) dX4_hasData_3 rfl ?_
    refine zg_icmpz (tgt := 25) dX4_hasData_5 rfl rfl (fun c5 => ?_) (fun c5 => ?_)
    · refine zg_st (pc' := 25) (L' := [some (.inr 0), some (.inl x1), some (.inl v2)]) (S' := []) (M' := M) rfl rfl rfl rfl ?_
      refine zg_drop (L' := [some (.inr 0), some (.inl x1), some (.inl v2)]) ⟨rfl, rfl, rfl, trivial⟩ ?_
      exact hx v2
    · refine zg_st (pc' := 8) (L' := [some (.inr 0), some (.inl x1), some (.inl v2)]) (S' := []) (M' := M) rfl rfl rfl rfl ?_
      refine zg_aload_n (x := 0) dX4_hasData_8 rfl ?_
      refine zg_iload_n (x := x1) dX4_hasData_9 rfl ?_
      refine zg_iload_n (x := v2) dX4_hasData_10 rfl ?_
      refine zg_cV1 (As := [.inl x1, .inl v2]) (S := []) (v := (f_X4_valueNow x1 v2 M)) dX4_hasData_11 zk_X4_62 (k_X4_valueNow q x1 v2 M) rfl rfl ⟨by decide, by decide⟩ ⟨by decide, by decide⟩ rfl (Nat.le_of_ble_eq_true rfl) ?_
      refine zg_st (pc' := 14) (L' := [some (.inr 0), some (.inl x1), some (.inl v2)]) (S' := [.inl (f_X4_valueNow x1 v2 M)]) (M' := M) rfl rfl rfl rfl ?_
      refine zg_ifz (tgt := 19) dX4_hasData_14 rfl rfl (fun c14 => ?_) (fun c14 => ?_)
      · refine zg_st (pc' := 19) (L' := [some (.inr 0), some (.inl x1), some (.inl v2)]) (S' := []) (M' := M) rfl rfl rfl rfl ?_
        refine zg_iinc (v := (v2 + 1)) dX4_hasData_19 rfl (by decide) rfl ?_
        refine zg_st (pc' := 22) (L' := [some (.inr 0), some (.inl x1), some (.inl (v2 + 1))]) (S' := []) (M' := M) rfl rfl rfl rfl ?_
        refine zg_goto (tgt := 2) dX4_hasData_22 rfl ?_
        refine zg_st (pc' := 2) (L' := [some (.inr 0), some (.inl x1), some (.inl (v2 + 1))]) (S' := []) (M' := M) rfl rfl rfl rfl ?_
        refine zg_drop (L' := [some (.inr 0), some (.inl x1), some (.inl (v2 + 1))]) ⟨rfl, rfl, rfl, trivial⟩ ?_
        exact ih (v2 + 1) (z_up c5 hm)
      · refine zg_st (pc' := 17) (L' := [some (.inr 0), some (.inl x1), some (.inl v2)]) (S' := []) (M' := M) rfl rfl rfl rfl ?_
        refine zg_iconst (v := 1) dX4_hasData_17 rfl ?_
        exact zg_iret dX4_hasData_18 rfl rfl ⟨by decide, by decide⟩ (hret _)
def f_X4_hasData (p1 : Int32) (M : Mem) : Bool :=
  zlet (l_X4_hasData_2 p1 M 13 0) (fun s1 => Sum.elim (fun r => r) (fun e_s1 =>
  false) s1)
set_option maxRecDepth 100000 in
set_option maxHeartbeats 4000000 in
theorem k_X4_hasData (q : ZQ) (p1 : Int32) (M : Mem) : Zc (zgX q) mX4_hasData 0 0 [.inr 0, .inl p1] M (wB M (f_X4_hasData p1 M)) := by
  refine Zc.of (by decide) zi_X4_hasData.1 (Nat.le_of_ble_eq_true rfl) rfl ?_
  show Zg _ _ _ _ _ _ (zlet (f_X4_hasData p1 M) (wB M)) _ _ _ _
  unfold f_X4_hasData
  refine zg_iconst (v := 0) dX4_hasData_0 rfl ?_
  refine zg_istore_n dX4_hasData_1 (by decide) ?_
  refine zg_st (pc' := 2) (L' := [some (.inr 0), some (.inl p1), some (.inl 0)]) (S' := []) (M' := M) rfl rfl rfl rfl ?_
  refine zg_asc ?_
  refine zg_drop (L' := [some (.inr 0), some (.inl p1), some (.inl 0)]) ⟨rfl, rfl, rfl, trivial⟩ ?_
  refine kl_X4_hasData_2 q p1 M ?_ (fun e_s1 => ?_) 13 0 (by decide)
  · exact fun r => rfl
  try dsimp only [Sum.elim_inr]
  refine zg_st (pc' := 25) (L' := [some (.inr 0), some (.inl p1), some (.inl e_s1)]) (S' := []) (M' := M) rfl rfl rfl rfl ?_
  refine zg_iconst (v := 0) dX4_hasData_25 rfl ?_
  exact zg_iret dX4_hasData_26 rfl rfl ⟨by decide, by decide⟩ rfl
theorem dX4_chooseForFile_0 : decode cX4_chooseForFile 0 = .ok (.iload_n 1, 1) := by decide +kernel
theorem dX4_chooseForFile_1 : decode cX4_chooseForFile 1 = .ok (.invokestatic 79, 3) := by decide +kernel
theorem dX4_chooseForFile_4 : decode cX4_chooseForFile 4 = .ok (.ifCond .eq 12, 3) := by decide +kernel
theorem dX4_chooseForFile_7 : decode cX4_chooseForFile 7 = .ok (.aload_n 0, 1) := by decide +kernel
theorem dX4_chooseForFile_8 : decode cX4_chooseForFile 8 = .ok (.getfield 37, 3) := by decide +kernel
theorem dX4_chooseForFile_11 : decode cX4_chooseForFile 11 = .ok (.iload_n 1, 1) := by decide +kernel
theorem dX4_chooseForFile_12 : decode cX4_chooseForFile 12 = .ok (.iaload, 1) := by decide +kernel
theorem dX4_chooseForFile_13 : decode cX4_chooseForFile 13 = .ok (.goto 4, 3) := by decide +kernel
theorem dX4_chooseForFile_16 : decode cX4_chooseForFile 16 = .ok (.iconst 1, 1) := by decide +kernel
theorem dX4_chooseForFile_17 : decode cX4_chooseForFile 17 = .ok (.istore_n 2, 1) := by decide +kernel
theorem dX4_chooseForFile_18 : decode cX4_chooseForFile 18 = .ok (.iconst 0, 1) := by decide +kernel
theorem dX4_chooseForFile_19 : decode cX4_chooseForFile 19 = .ok (.istore_n 3, 1) := by decide +kernel
theorem dX4_chooseForFile_20 : decode cX4_chooseForFile 20 = .ok (.iload_n 3, 1) := by decide +kernel
theorem dX4_chooseForFile_21 : decode cX4_chooseForFile 21 = .ok (.bipush 12, 2) := by decide +kernel
theorem dX4_chooseForFile_23 : decode cX4_chooseForFile 23 = .ok (.if_icmp .ge 71, 3) := by decide +kernel
theorem dX4_chooseForFile_26 : decode cX4_chooseForFile 26 = .ok (.iload_n 1, 1) := by decide +kernel
theorem dX4_chooseForFile_27 : decode cX4_chooseForFile 27 = .ok (.iload_n 3, 1) := by decide +kernel
theorem dX4_chooseForFile_28 : decode cX4_chooseForFile 28 = .ok (.invokestatic 66, 3) := by decide +kernel
theorem dX4_chooseForFile_31 : decode cX4_chooseForFile 31 = .ok (.istore 4, 2) := by decide +kernel
theorem dX4_chooseForFile_33 : decode cX4_chooseForFile 33 = .ok (.aload_n 0, 1) := by decide +kernel
theorem dX4_chooseForFile_34 : decode cX4_chooseForFile 34 = .ok (.getfield 26, 3) := by decide +kernel
theorem dX4_chooseForFile_37 : decode cX4_chooseForFile 37 = .ok (.iload 4, 2) := by decide +kernel
theorem dX4_chooseForFile_39 : decode cX4_chooseForFile 39 = .ok (.invokevirtual 86, 3) := by decide +kernel
theorem dX4_chooseForFile_42 : decode cX4_chooseForFile 42 = .ok (.ifCond .eq 19, 3) := by decide +kernel
theorem dX4_chooseForFile_45 : decode cX4_chooseForFile 45 = .ok (.aload_n 0, 1) := by decide +kernel
theorem dX4_chooseForFile_46 : decode cX4_chooseForFile 46 = .ok (.getfield 26, 3) := by decide +kernel
theorem dX4_chooseForFile_49 : decode cX4_chooseForFile 49 = .ok (.iload 4, 2) := by decide +kernel
theorem dX4_chooseForFile_51 : decode cX4_chooseForFile 51 = .ok (.invokevirtual 89, 3) := by decide +kernel
theorem dX4_chooseForFile_54 : decode cX4_chooseForFile 54 = .ok (.ifCond .eq 7, 3) := by decide +kernel
theorem dX4_chooseForFile_57 : decode cX4_chooseForFile 57 = .ok (.iconst 1, 1) := by decide +kernel
theorem dX4_chooseForFile_58 : decode cX4_chooseForFile 58 = .ok (.goto 4, 3) := by decide +kernel
theorem dX4_chooseForFile_61 : decode cX4_chooseForFile 61 = .ok (.iconst 0, 1) := by decide +kernel
theorem dX4_chooseForFile_62 : decode cX4_chooseForFile 62 = .ok (.istore 5, 2) := by decide +kernel
theorem dX4_chooseForFile_64 : decode cX4_chooseForFile 64 = .ok (.iload 5, 2) := by decide +kernel
theorem dX4_chooseForFile_66 : decode cX4_chooseForFile 66 = .ok (.ifCond .eq 22, 3) := by decide +kernel
theorem dX4_chooseForFile_69 : decode cX4_chooseForFile 69 = .ok (.aload_n 0, 1) := by decide +kernel
theorem dX4_chooseForFile_70 : decode cX4_chooseForFile 70 = .ok (.getfield 33, 3) := by decide +kernel
theorem dX4_chooseForFile_73 : decode cX4_chooseForFile 73 = .ok (.aload_n 0, 1) := by decide +kernel
theorem dX4_chooseForFile_74 : decode cX4_chooseForFile 74 = .ok (.getfield 12, 3) := by decide +kernel
theorem dX4_chooseForFile_77 : decode cX4_chooseForFile 77 = .ok (.iload 4, 2) := by decide +kernel
theorem dX4_chooseForFile_79 : decode cX4_chooseForFile 79 = .ok (.iload_n 2, 1) := by decide +kernel
theorem dX4_chooseForFile_80 : decode cX4_chooseForFile 80 = .ok (.invokevirtual 253, 3) := by decide +kernel
theorem dX4_chooseForFile_83 : decode cX4_chooseForFile 83 = .ok (.ifCond .ne 5, 3) := by decide +kernel
theorem dX4_chooseForFile_86 : decode cX4_chooseForFile 86 = .ok (.iconst 0, 1) := by decide +kernel
theorem dX4_chooseForFile_87 : decode cX4_chooseForFile 87 = .ok (.ireturn, 1) := by decide +kernel
theorem dX4_chooseForFile_88 : decode cX4_chooseForFile 88 = .ok (.iinc 3 1, 3) := by decide +kernel
theorem dX4_chooseForFile_91 : decode cX4_chooseForFile 91 = .ok (.goto (-71), 3) := by decide +kernel
theorem dX4_chooseForFile_94 : decode cX4_chooseForFile 94 = .ok (.aload_n 0, 1) := by decide +kernel
theorem dX4_chooseForFile_95 : decode cX4_chooseForFile 95 = .ok (.iload_n 1, 1) := by decide +kernel
theorem dX4_chooseForFile_96 : decode cX4_chooseForFile 96 = .ok (.invokevirtual 231, 3) := by decide +kernel
theorem dX4_chooseForFile_99 : decode cX4_chooseForFile 99 = .ok (.ifCond .eq 22, 3) := by decide +kernel
theorem dX4_chooseForFile_102 : decode cX4_chooseForFile 102 = .ok (.aload_n 0, 1) := by decide +kernel
theorem dX4_chooseForFile_103 : decode cX4_chooseForFile 103 = .ok (.getfield 33, 3) := by decide +kernel
theorem dX4_chooseForFile_106 : decode cX4_chooseForFile 106 = .ok (.aload_n 0, 1) := by decide +kernel
theorem dX4_chooseForFile_107 : decode cX4_chooseForFile 107 = .ok (.getfield 12, 3) := by decide +kernel
theorem dX4_chooseForFile_110 : decode cX4_chooseForFile 110 = .ok (.iload_n 1, 1) := by decide +kernel
theorem dX4_chooseForFile_111 : decode cX4_chooseForFile 111 = .ok (.invokestatic 93, 3) := by decide +kernel
theorem dX4_chooseForFile_114 : decode cX4_chooseForFile 114 = .ok (.iconst 2, 1) := by decide +kernel
theorem dX4_chooseForFile_115 : decode cX4_chooseForFile 115 = .ok (.invokevirtual 253, 3) := by decide +kernel
theorem dX4_chooseForFile_118 : decode cX4_chooseForFile 118 = .ok (.ifCond .eq 7, 3) := by decide +kernel
theorem dX4_chooseForFile_121 : decode cX4_chooseForFile 121 = .ok (.iconst 1, 1) := by decide +kernel
theorem dX4_chooseForFile_122 : decode cX4_chooseForFile 122 = .ok (.goto 4, 3) := by decide +kernel
theorem dX4_chooseForFile_125 : decode cX4_chooseForFile 125 = .ok (.iconst 0, 1) := by decide +kernel
theorem dX4_chooseForFile_126 : decode cX4_chooseForFile 126 = .ok (.ireturn, 1) := by decide +kernel
def b_X4_chooseForFile_20 (x1 : Int32) (x2 : Int32) (rec : Int32 → Mem → (Bool × Mem) ⊕ (Int32 × Mem)) (v3 : Int32) (N : Mem) : (Bool × Mem) ⊕ (Int32 × Mem) :=
  if 12 ≤ v3 then .inr (v3, N)
  else zlet (if (f_X2_holds (f_X4_blockPointer x1 v3) N) then if (f_X2_changeOf (f_X4_blockPointer x1 v3) N) = 0 then false
      else true
    else false) (fun (j3 : Bool) =>
  if j3 then zlet (f_X1_choose (f_X4_blockPointer x1 v3) x2 N) (fun q5 =>
      if q5.1 then rec (v3 + 1) q5.2
        else .inl (false, q5.2))
    else rec (v3 + 1) N)
def l_X4_chooseForFile_20 (x1 : Int32) (x2 : Int32) : Nat → Int32 → Mem → (Bool × Mem) ⊕ (Int32 × Mem)
  | 0, v3, N => .inr (v3, N)
  | n + 1, v3, N => b_X4_chooseForFile_20 x1 x2 (l_X4_chooseForFile_20 x1 x2 n) v3 N
set_option maxRecDepth 100000 in
set_option maxHeartbeats 4000000 in
theorem kl_X4_chooseForFile_20 (q : ZQ) (x1 : Int32) (x2 : Int32) {K : (Bool × Mem) ⊕ (Int32 × Mem) → ZR} (hret : ∀ r : (Bool × Mem), K (.inl r) = wBM r) (hx : ∀ e : Int32 × Mem, Zg (zgX q) mX4_chooseForFile 0 0 0 0 (K (.inr e)) 94 [some (.inr 0), some (.inl x1), some (.inl x2), some (.inl e.1), none, none] [] e.2) :
    ∀ (n : Nat) (v3 : Int32) (N : Mem), ((12 : Int32).toInt - (v3 : Int32).toInt).toNat < n → Zg (zgX q) mX4_chooseForFile 0 0 0 0 (zlet (l_X4_chooseForFile_20 x1 x2 n v3 N) K) 20 [some (.inr 0), some (.inl x1), some (.inl x2), some (.inl v3), none, none] [] N := by
  intro n
  induction n with
  | zero => intro v3 N hm; exact absurd hm (Nat.not_lt_zero _)
  | succ n ih =>
    intro v3 N hm
    show Zg _ _ _ _ _ _ (zlet (b_X4_chooseForFile_20 x1 x2 (l_X4_chooseForFile_20 x1 x2 n) v3 N) K) _ _ _ _
    unfold b_X4_chooseForFile_20
    refine zg_iload_n (x := v3) dX4_chooseForFile_20 rfl ?_
    refine zg_bipush (v := 12) dX4_chooseForFile_21 rfl ?_
    refine zg_icmpz (tgt := 94) dX4_chooseForFile_23 rfl rfl (fun c23 => ?_) (fun c23 => ?_)
    · refine zg_st (pc' := 94) (L' := [some (.inr 0), some (.inl x1), some (.inl x2), some (.inl v3), none, none]) (S' := []) (M' := N) rfl rfl rfl rfl ?_
      refine zg_drop (L' := [some (.inr 0), some (.inl x1), some (.inl x2), some (.inl v3), none, none]) ⟨rfl, rfl, rfl, rfl, trivial⟩ ?_
      exact hx (v3, N)
    · refine zg_st (pc' := 26) (L' := [some (.inr 0), some (.inl x1), some (.inl x2), some (.inl v3), none, none]) (S' := []) (M' := N) rfl rfl rfl rfl ?_
      refine zg_iload_n (x := x1) dX4_chooseForFile_26 rfl ?_
      refine zg_iload_n (x := v3) dX4_chooseForFile_27 rfl ?_
      refine zg_cS1 (As := [.inl x1, .inl v3]) (S := []) (v := (f_X4_blockPointer x1 v3)) dX4_chooseForFile_28 zk_X4_66 (k_X4_blockPointer q x1 v3 N) rfl ⟨by decide, by decide⟩ ⟨by decide, by decide⟩ rfl (Nat.le_of_ble_eq_true rfl) ?_
      refine zg_st (pc' := 31) (L' := [some (.inr 0), some (.inl x1), some (.inl x2), some (.inl v3), none, none]) (S' := [.inl (f_X4_blockPointer x1 v3)]) (M' := N) rfl rfl rfl rfl ?_
      refine zg_istore dX4_chooseForFile_31 (by decide) ?_
      refine zg_st (pc' := 33) (L' := [some (.inr 0), some (.inl x1), some (.inl x2), some (.inl v3), some (.inl (f_X4_blockPointer x1 v3)), none]) (S' := []) (M' := N) rfl rfl rfl rfl ?_
      refine zg_aload_n (x := 0) dX4_chooseForFile_33 rfl ?_
      refine zg_getf (v := .inr 3) dX4_chooseForFile_34 zf_X4_26 rfl rfl rfl ?_
      refine zg_iload (x := (f_X4_blockPointer x1 v3)) dX4_chooseForFile_37 rfl ?_
      refine zg_cV1 (As := [.inl (f_X4_blockPointer x1 v3)]) (S := []) (v := bI ((f_X2_holds (f_X4_blockPointer x1 v3) N))) dX4_chooseForFile_39 zk_X4_86 (k_X2_holds q (f_X4_blockPointer x1 v3) N) rfl rfl ⟨by decide, by decide⟩ ⟨by decide, by decide⟩ rfl (Nat.le_of_ble_eq_true rfl) ?_
      refine zg_st (pc' := 42) (L' := [some (.inr 0), some (.inl x1), some (.inl x2), some (.inl v3), some (.inl (f_X4_blockPointer x1 v3)), none]) (S' := [.inl (bI ((f_X2_holds (f_X4_blockPointer x1 v3) N)))]) (M' := N) rfl rfl rfl rfl ?_
      refine zg_join (pc' := 62) (Lf := fun (j3 : Bool) => [some (.inr 0), some (.inl x1), some (.inl x2), some (.inl v3), some (.inl (f_X4_blockPointer x1 v3)), none]) (Sf := fun j3 => [.inl (bI j3)]) (Mf := fun j3 => N) (fun (j3 : Bool) => ?_) (fun J4 => ?_)
      · try dsimp only
        refine zg_istore dX4_chooseForFile_62 (by decide) ?_
        refine zg_st (pc' := 64) (L' := [some (.inr 0), some (.inl x1), some (.inl x2), some (.inl v3), some (.inl (f_X4_blockPointer x1 v3)), some (.inl (bI j3))]) (S' := []) (M' := N) rfl rfl rfl rfl ?_
        refine zg_iload (x := bI j3) dX4_chooseForFile_64 rfl ?_
        refine zg_ifbe (tgt := 88) dX4_chooseForFile_66 rfl (fun c66 => ?_) (fun c66 => ?_)
        · refine zg_st (pc' := 69) (L' := [some (.inr 0), some (.inl x1), some (.inl x2), some (.inl v3), some (.inl (f_X4_blockPointer x1 v3)), some (.inl (bI j3))]) (S' := []) (M' := N) rfl rfl rfl rfl ?_
          refine zg_aload_n (x := 0) dX4_chooseForFile_69 rfl ?_
          refine zg_getf (v := .inr 4) dX4_chooseForFile_70 zf_X4_33 rfl rfl rfl ?_
          refine zg_aload_n (x := 0) dX4_chooseForFile_73 rfl ?_
          refine zg_getf (v := .inr 1) dX4_chooseForFile_74 zf_X4_12 rfl rfl rfl ?_
          refine zg_iload (x := (f_X4_blockPointer x1 v3)) dX4_chooseForFile_77 rfl ?_
          refine zg_iload_n (x := x2) dX4_chooseForFile_79 rfl ?_
          refine zg_cVBM (As := [.inr 1, .inl (f_X4_blockPointer x1 v3), .inl x2]) (S := []) dX4_chooseForFile_80 zk_X4_253 (k_X1_choose q (f_X4_blockPointer x1 v3) x2 N) rfl rfl ⟨by decide, by decide⟩ ⟨by decide, by decide⟩ rfl (Nat.le_of_ble_eq_true rfl) (fun q5 e_q5 => ?_)
          try dsimp only
          refine zg_st (pc' := 83) (L' := [some (.inr 0), some (.inl x1), some (.inl x2), some (.inl v3), some (.inl (f_X4_blockPointer x1 v3)), some (.inl (bI j3))]) (S' := [.inl (bI q5.1)]) (M' := q5.2) rfl rfl rfl rfl ?_
          refine zg_ifbn (tgt := 88) dX4_chooseForFile_83 rfl (fun c83 => ?_) (fun c83 => ?_)
          · refine zg_st (pc' := 88) (L' := [some (.inr 0), some (.inl x1), some (.inl x2), some (.inl v3), some (.inl (f_X4_blockPointer x1 v3)), some (.inl (bI j3))]) (S' := []) (M' := q5.2) rfl rfl rfl rfl ?_
            refine zg_iinc (v := (v3 + 1)) dX4_chooseForFile_88 rfl (by decide) rfl ?_
            refine zg_st (pc' := 91) (L' := [some (.inr 0), some (.inl x1), some (.inl x2), some (.inl (v3 + 1)), some (.inl (f_X4_blockPointer x1 v3)), some (.inl (bI j3))]) (S' := []) (M' := q5.2) rfl rfl rfl rfl ?_
            refine zg_goto (tgt := 20) dX4_chooseForFile_91 rfl ?_
            refine zg_st (pc' := 20) (L' := [some (.inr 0), some (.inl x1), some (.inl x2), some (.inl (v3 + 1)), some (.inl (f_X4_blockPointer x1 v3)), some (.inl (bI j3))]) (S' := []) (M' := q5.2) rfl rfl rfl rfl ?_
            refine zg_drop (L' := [some (.inr 0), some (.inl x1), some (.inl x2), some (.inl (v3 + 1)), none, none]) ⟨rfl, rfl, rfl, rfl, trivial⟩ ?_
            exact ih (v3 + 1) q5.2 (z_up c23 hm)
          · refine zg_st (pc' := 86) (L' := [some (.inr 0), some (.inl x1), some (.inl x2), some (.inl v3), some (.inl (f_X4_blockPointer x1 v3)), some (.inl (bI j3))]) (S' := []) (M' := q5.2) rfl rfl rfl rfl ?_
            refine zg_iconst (v := 0) dX4_chooseForFile_86 rfl ?_
            exact zg_iret dX4_chooseForFile_87 rfl rfl ⟨by decide, by decide⟩ (hret _)
        · refine zg_st (pc' := 88) (L' := [some (.inr 0), some (.inl x1), some (.inl x2), some (.inl v3), some (.inl (f_X4_blockPointer x1 v3)), some (.inl (bI j3))]) (S' := []) (M' := N) rfl rfl rfl rfl ?_
          refine zg_iinc (v := (v3 + 1)) dX4_chooseForFile_88 rfl (by decide) rfl ?_
          refine zg_st (pc' := 91) (L' := [some (.inr 0), some (.inl x1), some (.inl x2), some (.inl (v3 + 1)), some (.inl (f_X4_blockPointer x1 v3)), some (.inl (bI j3))]) (S' := []) (M' := N) rfl rfl rfl rfl ?_
          refine zg_goto (tgt := 20) dX4_chooseForFile_91 rfl ?_
          refine zg_st (pc' := 20) (L' := [some (.inr 0), some (.inl x1), some (.inl x2), some (.inl (v3 + 1)), some (.inl (f_X4_blockPointer x1 v3)), some (.inl (bI j3))]) (S' := []) (M' := N) rfl rfl rfl rfl ?_
          refine zg_drop (L' := [some (.inr 0), some (.inl x1), some (.inl x2), some (.inl (v3 + 1)), none, none]) ⟨rfl, rfl, rfl, rfl, trivial⟩ ?_
          exact ih (v3 + 1) N (z_up c23 hm)
      · refine zg_ifbe (tgt := 61) dX4_chooseForFile_42 rfl (fun c42 => ?_) (fun c42 => ?_)
        · refine zg_st (pc' := 45) (L' := [some (.inr 0), some (.inl x1), some (.inl x2), some (.inl v3), some (.inl (f_X4_blockPointer x1 v3)), none]) (S' := []) (M' := N) rfl rfl rfl rfl ?_
          refine zg_aload_n (x := 0) dX4_chooseForFile_45 rfl ?_
          refine zg_getf (v := .inr 3) dX4_chooseForFile_46 zf_X4_26 rfl rfl rfl ?_
          refine zg_iload (x := (f_X4_blockPointer x1 v3)) dX4_chooseForFile_49 rfl ?_
          refine zg_cV1 (As := [.inl (f_X4_blockPointer x1 v3)]) (S := []) (v := (f_X2_changeOf (f_X4_blockPointer x1 v3) N)) dX4_chooseForFile_51 zk_X4_89 (k_X2_changeOf q (f_X4_blockPointer x1 v3) N) rfl rfl ⟨by decide, by decide⟩ ⟨by decide, by decide⟩ rfl (Nat.le_of_ble_eq_true rfl) ?_
          refine zg_st (pc' := 54) (L' := [some (.inr 0), some (.inl x1), some (.inl x2), some (.inl v3), some (.inl (f_X4_blockPointer x1 v3)), none]) (S' := [.inl (f_X2_changeOf (f_X4_blockPointer x1 v3) N)]) (M' := N) rfl rfl rfl rfl ?_
          refine zg_ifz (tgt := 61) dX4_chooseForFile_54 rfl rfl (fun c54 => ?_) (fun c54 => ?_)
          · refine zg_st (pc' := 61) (L' := [some (.inr 0), some (.inl x1), some (.inl x2), some (.inl v3), some (.inl (f_X4_blockPointer x1 v3)), none]) (S' := []) (M' := N) rfl rfl rfl rfl ?_
            refine zg_iconst (v := 0) dX4_chooseForFile_61 rfl ?_
            refine zg_drop (L' := [some (.inr 0), some (.inl x1), some (.inl x2), some (.inl v3), some (.inl (f_X4_blockPointer x1 v3)), none]) ⟨rfl, rfl, rfl, rfl, rfl, trivial⟩ ?_
            exact J4 false
          · refine zg_st (pc' := 57) (L' := [some (.inr 0), some (.inl x1), some (.inl x2), some (.inl v3), some (.inl (f_X4_blockPointer x1 v3)), none]) (S' := []) (M' := N) rfl rfl rfl rfl ?_
            refine zg_iconst (v := 1) dX4_chooseForFile_57 rfl ?_
            refine zg_goto (tgt := 62) dX4_chooseForFile_58 rfl ?_
            refine zg_st (pc' := 62) (L' := [some (.inr 0), some (.inl x1), some (.inl x2), some (.inl v3), some (.inl (f_X4_blockPointer x1 v3)), none]) (S' := [.inl 1]) (M' := N) rfl rfl rfl rfl ?_
            refine zg_drop (L' := [some (.inr 0), some (.inl x1), some (.inl x2), some (.inl v3), some (.inl (f_X4_blockPointer x1 v3)), none]) ⟨rfl, rfl, rfl, rfl, rfl, trivial⟩ ?_
            exact J4 true
        · refine zg_st (pc' := 61) (L' := [some (.inr 0), some (.inl x1), some (.inl x2), some (.inl v3), some (.inl (f_X4_blockPointer x1 v3)), none]) (S' := []) (M' := N) rfl rfl rfl rfl ?_
          refine zg_iconst (v := 0) dX4_chooseForFile_61 rfl ?_
          refine zg_drop (L' := [some (.inr 0), some (.inl x1), some (.inl x2), some (.inl v3), some (.inl (f_X4_blockPointer x1 v3)), none]) ⟨rfl, rfl, rfl, rfl, rfl, trivial⟩ ?_
          exact J4 false
def f_X4_chooseForFile (p1 : Int32) (M : Mem) : (Bool × Mem) :=
  zlet (if (f_X4_isFile p1) then (M 5 p1.toNatClampNeg)
    else (1 : Int32)) (fun (j1 : Int32) =>
  zlet (l_X4_chooseForFile_20 p1 j1 13 0 M) (fun s6 => Sum.elim (fun r => r) (fun e_s6 =>
    if (f_X4_hasData p1 e_s6.2) then zlet (f_X1_choose (f_X4_filePointer p1) 2 e_s6.2) (fun q7 =>
        if q7.1 then (true, q7.2)
          else (false, q7.2))
      else (true, e_s6.2)) s6))
set_option maxRecDepth 100000 in
set_option maxHeartbeats 4000000 in
theorem k_X4_chooseForFile (q : ZQ) (p1 : Int32) (M : Mem) : Zc (zgX q) mX4_chooseForFile 0 0 [.inr 0, .inl p1] M (wBM (f_X4_chooseForFile p1 M)) := by
  refine Zc.of (by decide) zi_X4_chooseForFile.1 (Nat.le_of_ble_eq_true rfl) rfl ?_
  show Zg _ _ _ _ _ _ (zlet (f_X4_chooseForFile p1 M) wBM) _ _ _ _
  unfold f_X4_chooseForFile
  refine zg_iload_n (x := p1) dX4_chooseForFile_0 rfl ?_
  refine zg_cS1 (As := [.inl p1]) (S := []) (v := bI ((f_X4_isFile p1))) dX4_chooseForFile_1 zk_X4_79 (k_X4_isFile q p1 M) rfl ⟨by decide, by decide⟩ ⟨by decide, by decide⟩ rfl (Nat.le_of_ble_eq_true rfl) ?_
  refine zg_st (pc' := 4) (L' := [some (.inr 0), some (.inl p1), none, none, none, none]) (S' := [.inl (bI ((f_X4_isFile p1)))]) (M' := M) rfl rfl rfl rfl ?_
  refine zg_join (pc' := 17) (Lf := fun (j1 : Int32) => [some (.inr 0), some (.inl p1), none, none, none, none]) (Sf := fun j1 => [.inl j1]) (Mf := fun j1 => M) (fun (j1 : Int32) => ?_) (fun J2 => ?_)
  · try dsimp only
    refine zg_istore_n dX4_chooseForFile_17 (by decide) ?_
    refine zg_st (pc' := 18) (L' := [some (.inr 0), some (.inl p1), some (.inl j1), none, none, none]) (S' := []) (M' := M) rfl rfl rfl rfl ?_
    refine zg_iconst (v := 0) dX4_chooseForFile_18 rfl ?_
    refine zg_istore_n dX4_chooseForFile_19 (by decide) ?_
    refine zg_st (pc' := 20) (L' := [some (.inr 0), some (.inl p1), some (.inl j1), some (.inl 0), none, none]) (S' := []) (M' := M) rfl rfl rfl rfl ?_
    refine zg_asc ?_
    refine zg_drop (L' := [some (.inr 0), some (.inl p1), some (.inl j1), some (.inl 0), none, none]) ⟨rfl, rfl, rfl, rfl, trivial⟩ ?_
    refine kl_X4_chooseForFile_20 q p1 j1  ?_ (fun e_s6 => ?_) 13 0 M (by decide)
    · exact fun r => rfl
    try dsimp only [Sum.elim_inr]
    refine zg_st (pc' := 94) (L' := [some (.inr 0), some (.inl p1), some (.inl j1), some (.inl e_s6.1), none, none]) (S' := []) (M' := e_s6.2) rfl rfl rfl rfl ?_
    refine zg_aload_n (x := 0) dX4_chooseForFile_94 rfl ?_
    refine zg_iload_n (x := p1) dX4_chooseForFile_95 rfl ?_
    refine zg_cV1 (As := [.inl p1]) (S := []) (v := bI ((f_X4_hasData p1 e_s6.2))) dX4_chooseForFile_96 zk_X4_231 (k_X4_hasData q p1 e_s6.2) rfl rfl ⟨by decide, by decide⟩ ⟨by decide, by decide⟩ rfl (Nat.le_of_ble_eq_true rfl) ?_
    refine zg_st (pc' := 99) (L' := [some (.inr 0), some (.inl p1), some (.inl j1), some (.inl e_s6.1), none, none]) (S' := [.inl (bI ((f_X4_hasData p1 e_s6.2)))]) (M' := e_s6.2) rfl rfl rfl rfl ?_
    refine zg_ifbe (tgt := 121) dX4_chooseForFile_99 rfl (fun c99 => ?_) (fun c99 => ?_)
    · refine zg_st (pc' := 102) (L' := [some (.inr 0), some (.inl p1), some (.inl j1), some (.inl e_s6.1), none, none]) (S' := []) (M' := e_s6.2) rfl rfl rfl rfl ?_
      refine zg_aload_n (x := 0) dX4_chooseForFile_102 rfl ?_
      refine zg_getf (v := .inr 4) dX4_chooseForFile_103 zf_X4_33 rfl rfl rfl ?_
      refine zg_aload_n (x := 0) dX4_chooseForFile_106 rfl ?_
      refine zg_getf (v := .inr 1) dX4_chooseForFile_107 zf_X4_12 rfl rfl rfl ?_
      refine zg_iload_n (x := p1) dX4_chooseForFile_110 rfl ?_
      refine zg_cS1 (As := [.inl p1]) (S := [.inr 1, .inr 4]) (v := (f_X4_filePointer p1)) dX4_chooseForFile_111 zk_X4_93 (k_X4_filePointer q p1 e_s6.2) rfl ⟨by decide, by decide⟩ ⟨by decide, by decide⟩ rfl (Nat.le_of_ble_eq_true rfl) ?_
      refine zg_st (pc' := 114) (L' := [some (.inr 0), some (.inl p1), some (.inl j1), some (.inl e_s6.1), none, none]) (S' := [.inl (f_X4_filePointer p1), .inr 1, .inr 4]) (M' := e_s6.2) rfl rfl rfl rfl ?_
      refine zg_iconst (v := 2) dX4_chooseForFile_114 rfl ?_
      refine zg_cVBM (As := [.inr 1, .inl (f_X4_filePointer p1), .inl 2]) (S := []) dX4_chooseForFile_115 zk_X4_253 (k_X1_choose q (f_X4_filePointer p1) 2 e_s6.2) rfl rfl ⟨by decide, by decide⟩ ⟨by decide, by decide⟩ rfl (Nat.le_of_ble_eq_true rfl) (fun q7 e_q7 => ?_)
      try dsimp only
      refine zg_st (pc' := 118) (L' := [some (.inr 0), some (.inl p1), some (.inl j1), some (.inl e_s6.1), none, none]) (S' := [.inl (bI q7.1)]) (M' := q7.2) rfl rfl rfl rfl ?_
      refine zg_ifbe (tgt := 125) dX4_chooseForFile_118 rfl (fun c118 => ?_) (fun c118 => ?_)
      · refine zg_st (pc' := 121) (L' := [some (.inr 0), some (.inl p1), some (.inl j1), some (.inl e_s6.1), none, none]) (S' := []) (M' := q7.2) rfl rfl rfl rfl ?_
        refine zg_iconst (v := 1) dX4_chooseForFile_121 rfl ?_
        refine zg_goto (tgt := 126) dX4_chooseForFile_122 rfl ?_
        refine zg_st (pc' := 126) (L' := [some (.inr 0), some (.inl p1), some (.inl j1), some (.inl e_s6.1), none, none]) (S' := [.inl 1]) (M' := q7.2) rfl rfl rfl rfl ?_
        exact zg_iret dX4_chooseForFile_126 rfl rfl ⟨by decide, by decide⟩ rfl
      · refine zg_st (pc' := 125) (L' := [some (.inr 0), some (.inl p1), some (.inl j1), some (.inl e_s6.1), none, none]) (S' := []) (M' := q7.2) rfl rfl rfl rfl ?_
        refine zg_iconst (v := 0) dX4_chooseForFile_125 rfl ?_
        exact zg_iret dX4_chooseForFile_126 rfl rfl ⟨by decide, by decide⟩ rfl
    · refine zg_st (pc' := 121) (L' := [some (.inr 0), some (.inl p1), some (.inl j1), some (.inl e_s6.1), none, none]) (S' := []) (M' := e_s6.2) rfl rfl rfl rfl ?_
      refine zg_iconst (v := 1) dX4_chooseForFile_121 rfl ?_
      refine zg_goto (tgt := 126) dX4_chooseForFile_122 rfl ?_
      refine zg_st (pc' := 126) (L' := [some (.inr 0), some (.inl p1), some (.inl j1), some (.inl e_s6.1), none, none]) (S' := [.inl 1]) (M' := e_s6.2) rfl rfl rfl rfl ?_
      exact zg_iret dX4_chooseForFile_126 rfl rfl ⟨by decide, by decide⟩ rfl
  · refine zg_ifbe (tgt := 16) dX4_chooseForFile_4 rfl (fun c4 => ?_) (fun c4 => ?_)
    · refine zg_st (pc' := 7) (L' := [some (.inr 0), some (.inl p1), none, none, none, none]) (S' := []) (M' := M) rfl rfl rfl rfl ?_
      refine zg_aload_n (x := 0) dX4_chooseForFile_7 rfl ?_
      refine zg_getf (v := .inr 5) dX4_chooseForFile_8 zf_X4_37 rfl rfl rfl ?_
      refine zg_iload_n (x := p1) dX4_chooseForFile_11 rfl ?_
      refine zg_iald dX4_chooseForFile_12 rfl (by simp only [q_isFile, q_isBlock, q_isBlockOfFile, q_isMirror, q_isSideOfMirror, q_isCell, q_isPlaceNumber, q_isCellOnSide, q_isPointer, q_isBlockPointer, vp_in_iff, Int32.lt_iff_toInt_lt, Int32.le_iff_toInt_le, Int32.reduceToInt] at c4 ⊢; omega) ?_
      refine zg_goto (tgt := 17) dX4_chooseForFile_13 rfl ?_
      refine zg_st (pc' := 17) (L' := [some (.inr 0), some (.inl p1), none, none, none, none]) (S' := [.inl (M 5 p1.toNatClampNeg)]) (M' := M) rfl rfl rfl rfl ?_
      refine zg_drop (L' := [some (.inr 0), some (.inl p1), none, none, none, none]) ⟨rfl, rfl, trivial⟩ ?_
      exact J2 (M 5 p1.toNatClampNeg)
    · refine zg_st (pc' := 16) (L' := [some (.inr 0), some (.inl p1), none, none, none, none]) (S' := []) (M' := M) rfl rfl rfl rfl ?_
      refine zg_iconst (v := 1) dX4_chooseForFile_16 rfl ?_
      refine zg_drop (L' := [some (.inr 0), some (.inl p1), none, none, none, none]) ⟨rfl, rfl, trivial⟩ ?_
      exact J2 (1 : Int32)
theorem dX4_hasDataAnywhere_0 : decode cX4_hasDataAnywhere 0 = .ok (.iconst 0, 1) := by decide +kernel
theorem dX4_hasDataAnywhere_1 : decode cX4_hasDataAnywhere 1 = .ok (.istore_n 1, 1) := by decide +kernel
theorem dX4_hasDataAnywhere_2 : decode cX4_hasDataAnywhere 2 = .ok (.iload_n 1, 1) := by decide +kernel
theorem dX4_hasDataAnywhere_3 : decode cX4_hasDataAnywhere 3 = .ok (.iconst 4, 1) := by decide +kernel
theorem dX4_hasDataAnywhere_4 : decode cX4_hasDataAnywhere 4 = .ok (.if_icmp .ge 19, 3) := by decide +kernel
theorem dX4_hasDataAnywhere_7 : decode cX4_hasDataAnywhere 7 = .ok (.aload_n 0, 1) := by decide +kernel
theorem dX4_hasDataAnywhere_8 : decode cX4_hasDataAnywhere 8 = .ok (.iload_n 1, 1) := by decide +kernel
theorem dX4_hasDataAnywhere_9 : decode cX4_hasDataAnywhere 9 = .ok (.invokevirtual 231, 3) := by decide +kernel
theorem dX4_hasDataAnywhere_12 : decode cX4_hasDataAnywhere 12 = .ok (.ifCond .eq 5, 3) := by decide +kernel
theorem dX4_hasDataAnywhere_15 : decode cX4_hasDataAnywhere 15 = .ok (.iconst 1, 1) := by decide +kernel
theorem dX4_hasDataAnywhere_16 : decode cX4_hasDataAnywhere 16 = .ok (.ireturn, 1) := by decide +kernel
theorem dX4_hasDataAnywhere_17 : decode cX4_hasDataAnywhere 17 = .ok (.iinc 1 1, 3) := by decide +kernel
theorem dX4_hasDataAnywhere_20 : decode cX4_hasDataAnywhere 20 = .ok (.goto (-18), 3) := by decide +kernel
theorem dX4_hasDataAnywhere_23 : decode cX4_hasDataAnywhere 23 = .ok (.iconst 0, 1) := by decide +kernel
theorem dX4_hasDataAnywhere_24 : decode cX4_hasDataAnywhere 24 = .ok (.ireturn, 1) := by decide +kernel
def b_X4_hasDataAnywhere_2 (M : Mem) (rec : Int32 → Bool ⊕ (Int32)) (v1 : Int32) : Bool ⊕ (Int32) :=
  if 4 ≤ v1 then .inr v1
  else if (f_X4_hasData v1 M) then .inl true
  else rec (v1 + 1)
def l_X4_hasDataAnywhere_2 (M : Mem) : Nat → Int32 → Bool ⊕ (Int32)
  | 0, v1 => .inr v1
  | n + 1, v1 => b_X4_hasDataAnywhere_2 M (l_X4_hasDataAnywhere_2 M n) v1
set_option maxRecDepth 100000 in
set_option maxHeartbeats 4000000 in
theorem kl_X4_hasDataAnywhere_2 (q : ZQ) (M : Mem) {K : Bool ⊕ (Int32) → ZR} (hret : ∀ r : Bool, K (.inl r) = (wB M) r) (hx : ∀ e : Int32, Zg (zgX q) mX4_hasDataAnywhere 0 0 0 0 (K (.inr e)) 23 [some (.inr 0), some (.inl e)] [] M) :
    ∀ (n : Nat) (v1 : Int32), ((4 : Int32).toInt - (v1 : Int32).toInt).toNat < n → Zg (zgX q) mX4_hasDataAnywhere 0 0 0 0 (zlet (l_X4_hasDataAnywhere_2 M n v1) K) 2 [some (.inr 0), some (.inl v1)] [] M := by
  intro n
  induction n with
  | zero => intro v1 hm; exact absurd hm (Nat.not_lt_zero _)
  | succ n ih =>
    intro v1 hm
    show Zg _ _ _ _ _ _ (zlet (b_X4_hasDataAnywhere_2 M (l_X4_hasDataAnywhere_2 M n) v1) K) _ _ _ _
    unfold b_X4_hasDataAnywhere_2
    refine zg_iload_n (x := v1) dX4_hasDataAnywhere_2 rfl ?_
    refine zg_iconst (v := 4) dX4_hasDataAnywhere_3 rfl ?_
    refine zg_icmpz (tgt := 23) dX4_hasDataAnywhere_4 rfl rfl (fun c4 => ?_) (fun c4 => ?_)
    · refine zg_st (pc' := 23) (L' := [some (.inr 0), some (.inl v1)]) (S' := []) (M' := M) rfl rfl rfl rfl ?_
      refine zg_drop (L' := [some (.inr 0), some (.inl v1)]) ⟨rfl, rfl, trivial⟩ ?_
      exact hx v1
    · refine zg_st (pc' := 7) (L' := [some (.inr 0), some (.inl v1)]) (S' := []) (M' := M) rfl rfl rfl rfl ?_
      refine zg_aload_n (x := 0) dX4_hasDataAnywhere_7 rfl ?_
      refine zg_iload_n (x := v1) dX4_hasDataAnywhere_8 rfl ?_
      refine zg_cV1 (As := [.inl v1]) (S := []) (v := bI ((f_X4_hasData v1 M))) dX4_hasDataAnywhere_9 zk_X4_231 (k_X4_hasData q v1 M) rfl rfl ⟨by decide, by decide⟩ ⟨by decide, by decide⟩ rfl (Nat.le_of_ble_eq_true rfl) ?_
      refine zg_st (pc' := 12) (L' := [some (.inr 0), some (.inl v1)]) (S' := [.inl (bI ((f_X4_hasData v1 M)))]) (M' := M) rfl rfl rfl rfl ?_
      refine zg_ifbe (tgt := 17) dX4_hasDataAnywhere_12 rfl (fun c12 => ?_) (fun c12 => ?_)
      · refine zg_st (pc' := 15) (L' := [some (.inr 0), some (.inl v1)]) (S' := []) (M' := M) rfl rfl rfl rfl ?_
        refine zg_iconst (v := 1) dX4_hasDataAnywhere_15 rfl ?_
        exact zg_iret dX4_hasDataAnywhere_16 rfl rfl ⟨by decide, by decide⟩ (hret _)
      · refine zg_st (pc' := 17) (L' := [some (.inr 0), some (.inl v1)]) (S' := []) (M' := M) rfl rfl rfl rfl ?_
        refine zg_iinc (v := (v1 + 1)) dX4_hasDataAnywhere_17 rfl (by decide) rfl ?_
        refine zg_st (pc' := 20) (L' := [some (.inr 0), some (.inl (v1 + 1))]) (S' := []) (M' := M) rfl rfl rfl rfl ?_
        refine zg_goto (tgt := 2) dX4_hasDataAnywhere_20 rfl ?_
        refine zg_st (pc' := 2) (L' := [some (.inr 0), some (.inl (v1 + 1))]) (S' := []) (M' := M) rfl rfl rfl rfl ?_
        refine zg_drop (L' := [some (.inr 0), some (.inl (v1 + 1))]) ⟨rfl, rfl, trivial⟩ ?_
        exact ih (v1 + 1) (z_up c4 hm)
def f_X4_hasDataAnywhere (M : Mem) : Bool :=
  zlet (l_X4_hasDataAnywhere_2 M 5 0) (fun s1 => Sum.elim (fun r => r) (fun e_s1 =>
  false) s1)
set_option maxRecDepth 100000 in
set_option maxHeartbeats 4000000 in
theorem k_X4_hasDataAnywhere (q : ZQ) (M : Mem) : Zc (zgX q) mX4_hasDataAnywhere 0 0 [.inr 0] M (wB M (f_X4_hasDataAnywhere M)) := by
  refine Zc.of (by decide) zi_X4_hasDataAnywhere.1 (Nat.le_of_ble_eq_true rfl) rfl ?_
  show Zg _ _ _ _ _ _ (zlet (f_X4_hasDataAnywhere M) (wB M)) _ _ _ _
  unfold f_X4_hasDataAnywhere
  refine zg_iconst (v := 0) dX4_hasDataAnywhere_0 rfl ?_
  refine zg_istore_n dX4_hasDataAnywhere_1 (by decide) ?_
  refine zg_st (pc' := 2) (L' := [some (.inr 0), some (.inl 0)]) (S' := []) (M' := M) rfl rfl rfl rfl ?_
  refine zg_asc ?_
  refine zg_drop (L' := [some (.inr 0), some (.inl 0)]) ⟨rfl, rfl, trivial⟩ ?_
  refine kl_X4_hasDataAnywhere_2 q M ?_ (fun e_s1 => ?_) 5 0 (by decide)
  · exact fun r => rfl
  try dsimp only [Sum.elim_inr]
  refine zg_st (pc' := 23) (L' := [some (.inr 0), some (.inl e_s1)]) (S' := []) (M' := M) rfl rfl rfl rfl ?_
  refine zg_iconst (v := 0) dX4_hasDataAnywhere_23 rfl ?_
  exact zg_iret dX4_hasDataAnywhere_24 rfl rfl ⟨by decide, by decide⟩ rfl
theorem dX4_choosePlaces_0 : decode cX4_choosePlaces 0 = .ok (.aload_n 0, 1) := by decide +kernel
theorem dX4_choosePlaces_1 : decode cX4_choosePlaces 1 = .ok (.getfield 33, 3) := by decide +kernel
theorem dX4_choosePlaces_4 : decode cX4_choosePlaces 4 = .ok (.aload_n 0, 1) := by decide +kernel
theorem dX4_choosePlaces_5 : decode cX4_choosePlaces 5 = .ok (.getfield 12, 3) := by decide +kernel
theorem dX4_choosePlaces_8 : decode cX4_choosePlaces 8 = .ok (.invokevirtual 240, 3) := by decide +kernel
theorem dX4_choosePlaces_11 : decode cX4_choosePlaces 11 = .ok (.iconst 0, 1) := by decide +kernel
theorem dX4_choosePlaces_12 : decode cX4_choosePlaces 12 = .ok (.istore_n 1, 1) := by decide +kernel
theorem dX4_choosePlaces_13 : decode cX4_choosePlaces 13 = .ok (.iload_n 1, 1) := by decide +kernel
theorem dX4_choosePlaces_14 : decode cX4_choosePlaces 14 = .ok (.iconst 4, 1) := by decide +kernel
theorem dX4_choosePlaces_15 : decode cX4_choosePlaces 15 = .ok (.if_icmp .ge 30, 3) := by decide +kernel
theorem dX4_choosePlaces_18 : decode cX4_choosePlaces 18 = .ok (.aload_n 0, 1) := by decide +kernel
theorem dX4_choosePlaces_19 : decode cX4_choosePlaces 19 = .ok (.getfield 26, 3) := by decide +kernel
theorem dX4_choosePlaces_22 : decode cX4_choosePlaces 22 = .ok (.iload_n 1, 1) := by decide +kernel
theorem dX4_choosePlaces_23 : decode cX4_choosePlaces 23 = .ok (.invokevirtual 244, 3) := by decide +kernel
theorem dX4_choosePlaces_26 : decode cX4_choosePlaces 26 = .ok (.ifCond .eq 13, 3) := by decide +kernel
theorem dX4_choosePlaces_29 : decode cX4_choosePlaces 29 = .ok (.aload_n 0, 1) := by decide +kernel
theorem dX4_choosePlaces_30 : decode cX4_choosePlaces 30 = .ok (.iload_n 1, 1) := by decide +kernel
theorem dX4_choosePlaces_31 : decode cX4_choosePlaces 31 = .ok (.invokevirtual 247, 3) := by decide +kernel
theorem dX4_choosePlaces_34 : decode cX4_choosePlaces 34 = .ok (.ifCond .ne 5, 3) := by decide +kernel
theorem dX4_choosePlaces_37 : decode cX4_choosePlaces 37 = .ok (.iconst 0, 1) := by decide +kernel
theorem dX4_choosePlaces_38 : decode cX4_choosePlaces 38 = .ok (.ireturn, 1) := by decide +kernel
theorem dX4_choosePlaces_39 : decode cX4_choosePlaces 39 = .ok (.iinc 1 1, 3) := by decide +kernel
theorem dX4_choosePlaces_42 : decode cX4_choosePlaces 42 = .ok (.goto (-29), 3) := by decide +kernel
theorem dX4_choosePlaces_45 : decode cX4_choosePlaces 45 = .ok (.aload_n 0, 1) := by decide +kernel
theorem dX4_choosePlaces_46 : decode cX4_choosePlaces 46 = .ok (.invokevirtual 250, 3) := by decide +kernel
theorem dX4_choosePlaces_49 : decode cX4_choosePlaces 49 = .ok (.ifCond .eq 20, 3) := by decide +kernel
theorem dX4_choosePlaces_52 : decode cX4_choosePlaces 52 = .ok (.aload_n 0, 1) := by decide +kernel
theorem dX4_choosePlaces_53 : decode cX4_choosePlaces 53 = .ok (.getfield 33, 3) := by decide +kernel
theorem dX4_choosePlaces_56 : decode cX4_choosePlaces 56 = .ok (.aload_n 0, 1) := by decide +kernel
theorem dX4_choosePlaces_57 : decode cX4_choosePlaces 57 = .ok (.getfield 12, 3) := by decide +kernel
theorem dX4_choosePlaces_60 : decode cX4_choosePlaces 60 = .ok (.bipush 52, 2) := by decide +kernel
theorem dX4_choosePlaces_62 : decode cX4_choosePlaces 62 = .ok (.iconst 2, 1) := by decide +kernel
theorem dX4_choosePlaces_63 : decode cX4_choosePlaces 63 = .ok (.invokevirtual 253, 3) := by decide +kernel
theorem dX4_choosePlaces_66 : decode cX4_choosePlaces 66 = .ok (.ifCond .eq 7, 3) := by decide +kernel
theorem dX4_choosePlaces_69 : decode cX4_choosePlaces 69 = .ok (.iconst 1, 1) := by decide +kernel
theorem dX4_choosePlaces_70 : decode cX4_choosePlaces 70 = .ok (.goto 4, 3) := by decide +kernel
theorem dX4_choosePlaces_73 : decode cX4_choosePlaces 73 = .ok (.iconst 0, 1) := by decide +kernel
theorem dX4_choosePlaces_74 : decode cX4_choosePlaces 74 = .ok (.ireturn, 1) := by decide +kernel
def b_X4_choosePlaces_13 (rec : Int32 → Mem → (Bool × Mem) ⊕ (Int32 × Mem)) (v1 : Int32) (N : Mem) : (Bool × Mem) ⊕ (Int32 × Mem) :=
  if 4 ≤ v1 then .inr (v1, N)
  else if (f_X2_changes v1 N) then zlet (f_X4_chooseForFile v1 N) (fun q2 =>
    if q2.1 then rec (v1 + 1) q2.2
      else .inl (false, q2.2))
  else rec (v1 + 1) N
def l_X4_choosePlaces_13 : Nat → Int32 → Mem → (Bool × Mem) ⊕ (Int32 × Mem)
  | 0, v1, N => .inr (v1, N)
  | n + 1, v1, N => b_X4_choosePlaces_13 (l_X4_choosePlaces_13 n) v1 N
set_option maxRecDepth 100000 in
set_option maxHeartbeats 4000000 in
theorem kl_X4_choosePlaces_13 (q : ZQ) {K : (Bool × Mem) ⊕ (Int32 × Mem) → ZR} (hret : ∀ r : (Bool × Mem), K (.inl r) = wBM r) (hx : ∀ e : Int32 × Mem, Zg (zgX q) mX4_choosePlaces 0 0 0 0 (K (.inr e)) 45 [some (.inr 0), some (.inl e.1)] [] e.2) :
    ∀ (n : Nat) (v1 : Int32) (N : Mem), ((4 : Int32).toInt - (v1 : Int32).toInt).toNat < n → Zg (zgX q) mX4_choosePlaces 0 0 0 0 (zlet (l_X4_choosePlaces_13 n v1 N) K) 13 [some (.inr 0), some (.inl v1)] [] N := by
  intro n
  induction n with
  | zero => intro v1 N hm; exact absurd hm (Nat.not_lt_zero _)
  | succ n ih =>
    intro v1 N hm
    show Zg _ _ _ _ _ _ (zlet (b_X4_choosePlaces_13 (l_X4_choosePlaces_13 n) v1 N) K) _ _ _ _
    unfold b_X4_choosePlaces_13
    refine zg_iload_n (x := v1) dX4_choosePlaces_13 rfl ?_
    refine zg_iconst (v := 4) dX4_choosePlaces_14 rfl ?_
    refine zg_icmpz (tgt := 45) dX4_choosePlaces_15 rfl rfl (fun c15 => ?_) (fun c15 => ?_)
    · refine zg_st (pc' := 45) (L' := [some (.inr 0), some (.inl v1)]) (S' := []) (M' := N) rfl rfl rfl rfl ?_
      refine zg_drop (L' := [some (.inr 0), some (.inl v1)]) ⟨rfl, rfl, trivial⟩ ?_
      exact hx (v1, N)
    · refine zg_st (pc' := 18) (L' := [some (.inr 0), some (.inl v1)]) (S' := []) (M' := N) rfl rfl rfl rfl ?_
      refine zg_aload_n (x := 0) dX4_choosePlaces_18 rfl ?_
      refine zg_getf (v := .inr 3) dX4_choosePlaces_19 zf_X4_26 rfl rfl rfl ?_
      refine zg_iload_n (x := v1) dX4_choosePlaces_22 rfl ?_
      refine zg_cV1 (As := [.inl v1]) (S := []) (v := bI ((f_X2_changes v1 N))) dX4_choosePlaces_23 zk_X4_244 (k_X2_changes q v1 N) rfl rfl ⟨by decide, by decide⟩ ⟨by decide, by decide⟩ rfl (Nat.le_of_ble_eq_true rfl) ?_
      refine zg_st (pc' := 26) (L' := [some (.inr 0), some (.inl v1)]) (S' := [.inl (bI ((f_X2_changes v1 N)))]) (M' := N) rfl rfl rfl rfl ?_
      refine zg_ifbe (tgt := 39) dX4_choosePlaces_26 rfl (fun c26 => ?_) (fun c26 => ?_)
      · refine zg_st (pc' := 29) (L' := [some (.inr 0), some (.inl v1)]) (S' := []) (M' := N) rfl rfl rfl rfl ?_
        refine zg_aload_n (x := 0) dX4_choosePlaces_29 rfl ?_
        refine zg_iload_n (x := v1) dX4_choosePlaces_30 rfl ?_
        refine zg_cVBM (As := [.inl v1]) (S := []) dX4_choosePlaces_31 zk_X4_247 (k_X4_chooseForFile q v1 N) rfl rfl ⟨by decide, by decide⟩ ⟨by decide, by decide⟩ rfl (Nat.le_of_ble_eq_true rfl) (fun q2 e_q2 => ?_)
        try dsimp only
        refine zg_st (pc' := 34) (L' := [some (.inr 0), some (.inl v1)]) (S' := [.inl (bI q2.1)]) (M' := q2.2) rfl rfl rfl rfl ?_
        refine zg_ifbn (tgt := 39) dX4_choosePlaces_34 rfl (fun c34 => ?_) (fun c34 => ?_)
        · refine zg_st (pc' := 39) (L' := [some (.inr 0), some (.inl v1)]) (S' := []) (M' := q2.2) rfl rfl rfl rfl ?_
          refine zg_iinc (v := (v1 + 1)) dX4_choosePlaces_39 rfl (by decide) rfl ?_
          refine zg_st (pc' := 42) (L' := [some (.inr 0), some (.inl (v1 + 1))]) (S' := []) (M' := q2.2) rfl rfl rfl rfl ?_
          refine zg_goto (tgt := 13) dX4_choosePlaces_42 rfl ?_
          refine zg_st (pc' := 13) (L' := [some (.inr 0), some (.inl (v1 + 1))]) (S' := []) (M' := q2.2) rfl rfl rfl rfl ?_
          refine zg_drop (L' := [some (.inr 0), some (.inl (v1 + 1))]) ⟨rfl, rfl, trivial⟩ ?_
          exact ih (v1 + 1) q2.2 (z_up c15 hm)
        · refine zg_st (pc' := 37) (L' := [some (.inr 0), some (.inl v1)]) (S' := []) (M' := q2.2) rfl rfl rfl rfl ?_
          refine zg_iconst (v := 0) dX4_choosePlaces_37 rfl ?_
          exact zg_iret dX4_choosePlaces_38 rfl rfl ⟨by decide, by decide⟩ (hret _)
      · refine zg_st (pc' := 39) (L' := [some (.inr 0), some (.inl v1)]) (S' := []) (M' := N) rfl rfl rfl rfl ?_
        refine zg_iinc (v := (v1 + 1)) dX4_choosePlaces_39 rfl (by decide) rfl ?_
        refine zg_st (pc' := 42) (L' := [some (.inr 0), some (.inl (v1 + 1))]) (S' := []) (M' := N) rfl rfl rfl rfl ?_
        refine zg_goto (tgt := 13) dX4_choosePlaces_42 rfl ?_
        refine zg_st (pc' := 13) (L' := [some (.inr 0), some (.inl (v1 + 1))]) (S' := []) (M' := N) rfl rfl rfl rfl ?_
        refine zg_drop (L' := [some (.inr 0), some (.inl (v1 + 1))]) ⟨rfl, rfl, trivial⟩ ?_
        exact ih (v1 + 1) N (z_up c15 hm)
def f_X4_choosePlaces (M : Mem) : (Bool × Mem) :=
  zlet (f_X1_begin M) (fun N1 =>
  zlet (l_X4_choosePlaces_13 5 0 N1) (fun s3 => Sum.elim (fun r => r) (fun e_s3 =>
    if (f_X4_hasDataAnywhere e_s3.2) then zlet (f_X1_choose 52 2 e_s3.2) (fun q4 =>
        if q4.1 then (true, q4.2)
          else (false, q4.2))
      else (true, e_s3.2)) s3))
set_option maxRecDepth 100000 in
set_option maxHeartbeats 4000000 in
theorem k_X4_choosePlaces (q : ZQ) (M : Mem) : Zc (zgX q) mX4_choosePlaces 0 0 [.inr 0] M (wBM (f_X4_choosePlaces M)) := by
  refine Zc.of (by decide) zi_X4_choosePlaces.1 (Nat.le_of_ble_eq_true rfl) rfl ?_
  show Zg _ _ _ _ _ _ (zlet (f_X4_choosePlaces M) wBM) _ _ _ _
  unfold f_X4_choosePlaces
  refine zg_aload_n (x := 0) dX4_choosePlaces_0 rfl ?_
  refine zg_getf (v := .inr 4) dX4_choosePlaces_1 zf_X4_33 rfl rfl rfl ?_
  refine zg_aload_n (x := 0) dX4_choosePlaces_4 rfl ?_
  refine zg_getf (v := .inr 1) dX4_choosePlaces_5 zf_X4_12 rfl rfl rfl ?_
  refine zg_cVV (As := [.inr 1]) (S := []) dX4_choosePlaces_8 zk_X4_240 (k_X1_begin q M) rfl rfl ⟨by decide, by decide⟩ ⟨by decide, by decide⟩ rfl (Nat.le_of_ble_eq_true rfl) (fun N1 e_N1 => ?_)
  try dsimp only
  refine zg_st (pc' := 11) (L' := [some (.inr 0), none]) (S' := []) (M' := N1) rfl rfl rfl rfl ?_
  refine zg_iconst (v := 0) dX4_choosePlaces_11 rfl ?_
  refine zg_istore_n dX4_choosePlaces_12 (by decide) ?_
  refine zg_st (pc' := 13) (L' := [some (.inr 0), some (.inl 0)]) (S' := []) (M' := N1) rfl rfl rfl rfl ?_
  refine zg_asc ?_
  refine zg_drop (L' := [some (.inr 0), some (.inl 0)]) ⟨rfl, rfl, trivial⟩ ?_
  refine kl_X4_choosePlaces_13 q  ?_ (fun e_s3 => ?_) 5 0 N1 (by decide)
  · exact fun r => rfl
  try dsimp only [Sum.elim_inr]
  refine zg_st (pc' := 45) (L' := [some (.inr 0), some (.inl e_s3.1)]) (S' := []) (M' := e_s3.2) rfl rfl rfl rfl ?_
  refine zg_aload_n (x := 0) dX4_choosePlaces_45 rfl ?_
  refine zg_cV1 (As := []) (S := []) (v := bI ((f_X4_hasDataAnywhere e_s3.2))) dX4_choosePlaces_46 zk_X4_250 (k_X4_hasDataAnywhere q e_s3.2) rfl rfl ⟨by decide, by decide⟩ ⟨by decide, by decide⟩ rfl (Nat.le_of_ble_eq_true rfl) ?_
  refine zg_st (pc' := 49) (L' := [some (.inr 0), some (.inl e_s3.1)]) (S' := [.inl (bI ((f_X4_hasDataAnywhere e_s3.2)))]) (M' := e_s3.2) rfl rfl rfl rfl ?_
  refine zg_ifbe (tgt := 69) dX4_choosePlaces_49 rfl (fun c49 => ?_) (fun c49 => ?_)
  · refine zg_st (pc' := 52) (L' := [some (.inr 0), some (.inl e_s3.1)]) (S' := []) (M' := e_s3.2) rfl rfl rfl rfl ?_
    refine zg_aload_n (x := 0) dX4_choosePlaces_52 rfl ?_
    refine zg_getf (v := .inr 4) dX4_choosePlaces_53 zf_X4_33 rfl rfl rfl ?_
    refine zg_aload_n (x := 0) dX4_choosePlaces_56 rfl ?_
    refine zg_getf (v := .inr 1) dX4_choosePlaces_57 zf_X4_12 rfl rfl rfl ?_
    refine zg_bipush (v := 52) dX4_choosePlaces_60 rfl ?_
    refine zg_iconst (v := 2) dX4_choosePlaces_62 rfl ?_
    refine zg_cVBM (As := [.inr 1, .inl 52, .inl 2]) (S := []) dX4_choosePlaces_63 zk_X4_253 (k_X1_choose q 52 2 e_s3.2) rfl rfl ⟨by decide, by decide⟩ ⟨by decide, by decide⟩ rfl (Nat.le_of_ble_eq_true rfl) (fun q4 e_q4 => ?_)
    try dsimp only
    refine zg_st (pc' := 66) (L' := [some (.inr 0), some (.inl e_s3.1)]) (S' := [.inl (bI q4.1)]) (M' := q4.2) rfl rfl rfl rfl ?_
    refine zg_ifbe (tgt := 73) dX4_choosePlaces_66 rfl (fun c66 => ?_) (fun c66 => ?_)
    · refine zg_st (pc' := 69) (L' := [some (.inr 0), some (.inl e_s3.1)]) (S' := []) (M' := q4.2) rfl rfl rfl rfl ?_
      refine zg_iconst (v := 1) dX4_choosePlaces_69 rfl ?_
      refine zg_goto (tgt := 74) dX4_choosePlaces_70 rfl ?_
      refine zg_st (pc' := 74) (L' := [some (.inr 0), some (.inl e_s3.1)]) (S' := [.inl 1]) (M' := q4.2) rfl rfl rfl rfl ?_
      exact zg_iret dX4_choosePlaces_74 rfl rfl ⟨by decide, by decide⟩ rfl
    · refine zg_st (pc' := 73) (L' := [some (.inr 0), some (.inl e_s3.1)]) (S' := []) (M' := q4.2) rfl rfl rfl rfl ?_
      refine zg_iconst (v := 0) dX4_choosePlaces_73 rfl ?_
      exact zg_iret dX4_choosePlaces_74 rfl rfl ⟨by decide, by decide⟩ rfl
  · refine zg_st (pc' := 69) (L' := [some (.inr 0), some (.inl e_s3.1)]) (S' := []) (M' := e_s3.2) rfl rfl rfl rfl ?_
    refine zg_iconst (v := 1) dX4_choosePlaces_69 rfl ?_
    refine zg_goto (tgt := 74) dX4_choosePlaces_70 rfl ?_
    refine zg_st (pc' := 74) (L' := [some (.inr 0), some (.inl e_s3.1)]) (S' := [.inl 1]) (M' := e_s3.2) rfl rfl rfl rfl ?_
    exact zg_iret dX4_choosePlaces_74 rfl rfl ⟨by decide, by decide⟩ rfl
theorem dX4_repoint_0 : decode cX4_repoint 0 = .ok (.aload_n 0, 1) := by decide +kernel
theorem dX4_repoint_1 : decode cX4_repoint 1 = .ok (.getfield 33, 3) := by decide +kernel
theorem dX4_repoint_4 : decode cX4_repoint 4 = .ok (.iload_n 1, 1) := by decide +kernel
theorem dX4_repoint_5 : decode cX4_repoint 5 = .ok (.invokevirtual 270, 3) := by decide +kernel
theorem dX4_repoint_8 : decode cX4_repoint 8 = .ok (.istore_n 3, 1) := by decide +kernel
theorem dX4_repoint_9 : decode cX4_repoint 9 = .ok (.aload_n 0, 1) := by decide +kernel
theorem dX4_repoint_10 : decode cX4_repoint 10 = .ok (.getfield 33, 3) := by decide +kernel
theorem dX4_repoint_13 : decode cX4_repoint 13 = .ok (.iload_n 1, 1) := by decide +kernel
theorem dX4_repoint_14 : decode cX4_repoint 14 = .ok (.invokevirtual 273, 3) := by decide +kernel
theorem dX4_repoint_17 : decode cX4_repoint 17 = .ok (.istore 4, 2) := by decide +kernel
theorem dX4_repoint_19 : decode cX4_repoint 19 = .ok (.iload_n 3, 1) := by decide +kernel
theorem dX4_repoint_20 : decode cX4_repoint 20 = .ok (.iconst (-1), 1) := by decide +kernel
theorem dX4_repoint_21 : decode cX4_repoint 21 = .ok (.if_icmp .ne 13, 3) := by decide +kernel
theorem dX4_repoint_24 : decode cX4_repoint 24 = .ok (.aload_n 0, 1) := by decide +kernel
theorem dX4_repoint_25 : decode cX4_repoint 25 = .ok (.getfield 19, 3) := by decide +kernel
theorem dX4_repoint_28 : decode cX4_repoint 28 = .ok (.iload_n 1, 1) := by decide +kernel
theorem dX4_repoint_29 : decode cX4_repoint 29 = .ok (.invokevirtual 276, 3) := by decide +kernel
theorem dX4_repoint_32 : decode cX4_repoint 32 = .ok (.iconst 0, 1) := by decide +kernel
theorem dX4_repoint_33 : decode cX4_repoint 33 = .ok (.ireturn, 1) := by decide +kernel
theorem dX4_repoint_34 : decode cX4_repoint 34 = .ok (.aload_n 0, 1) := by decide +kernel
theorem dX4_repoint_35 : decode cX4_repoint 35 = .ok (.getfield 19, 3) := by decide +kernel
theorem dX4_repoint_38 : decode cX4_repoint 38 = .ok (.iload_n 1, 1) := by decide +kernel
theorem dX4_repoint_39 : decode cX4_repoint 39 = .ok (.iload_n 3, 1) := by decide +kernel
theorem dX4_repoint_40 : decode cX4_repoint 40 = .ok (.iload 4, 2) := by decide +kernel
theorem dX4_repoint_42 : decode cX4_repoint 42 = .ok (.invokevirtual 280, 3) := by decide +kernel
theorem dX4_repoint_45 : decode cX4_repoint 45 = .ok (.aload_n 0, 1) := by decide +kernel
theorem dX4_repoint_46 : decode cX4_repoint 46 = .ok (.getfield 19, 3) := by decide +kernel
theorem dX4_repoint_49 : decode cX4_repoint 49 = .ok (.iload_n 1, 1) := by decide +kernel
theorem dX4_repoint_50 : decode cX4_repoint 50 = .ok (.iload_n 2, 1) := by decide +kernel
theorem dX4_repoint_51 : decode cX4_repoint 51 = .ok (.aload_n 0, 1) := by decide +kernel
theorem dX4_repoint_52 : decode cX4_repoint 52 = .ok (.getfield 26, 3) := by decide +kernel
theorem dX4_repoint_55 : decode cX4_repoint 55 = .ok (.getfield 137, 3) := by decide +kernel
theorem dX4_repoint_58 : decode cX4_repoint 58 = .ok (.invokevirtual 283, 3) := by decide +kernel
theorem dX4_repoint_61 : decode cX4_repoint 61 = .ok (.aload_n 0, 1) := by decide +kernel
theorem dX4_repoint_62 : decode cX4_repoint 62 = .ok (.getfield 12, 3) := by decide +kernel
theorem dX4_repoint_65 : decode cX4_repoint 65 = .ok (.iload_n 3, 1) := by decide +kernel
theorem dX4_repoint_66 : decode cX4_repoint 66 = .ok (.invokevirtual 286, 3) := by decide +kernel
theorem dX4_repoint_69 : decode cX4_repoint 69 = .ok (.aload_n 0, 1) := by decide +kernel
theorem dX4_repoint_70 : decode cX4_repoint 70 = .ok (.getfield 12, 3) := by decide +kernel
theorem dX4_repoint_73 : decode cX4_repoint 73 = .ok (.iload 4, 2) := by decide +kernel
theorem dX4_repoint_75 : decode cX4_repoint 75 = .ok (.invokevirtual 286, 3) := by decide +kernel
theorem dX4_repoint_78 : decode cX4_repoint 78 = .ok (.iload 4, 2) := by decide +kernel
theorem dX4_repoint_80 : decode cX4_repoint 80 = .ok (.iconst (-1), 1) := by decide +kernel
theorem dX4_repoint_81 : decode cX4_repoint 81 = .ok (.if_icmp .ne 7, 3) := by decide +kernel
theorem dX4_repoint_84 : decode cX4_repoint 84 = .ok (.iconst 1, 1) := by decide +kernel
theorem dX4_repoint_85 : decode cX4_repoint 85 = .ok (.goto 4, 3) := by decide +kernel
theorem dX4_repoint_88 : decode cX4_repoint 88 = .ok (.iconst 2, 1) := by decide +kernel
theorem dX4_repoint_89 : decode cX4_repoint 89 = .ok (.ireturn, 1) := by decide +kernel
def f_X4_repoint (p1 : Int32) (p2 : Int32) (M : Mem) : (Int32 × Mem) :=
  if ¬ (f_X1_firstFor p1 M) = (-1) then zlet (f_X3_point p1 (f_X1_firstFor p1 M) (f_X1_secondFor p1 M) M) (fun N1 =>
    zlet (f_X3_sign p1 p2 (N1 3 1) N1) (fun N2 =>
      zlet (f_X0_fill (f_X1_firstFor p1 M) N2) (fun N3 =>
        zlet (f_X0_fill (f_X1_secondFor p1 M) N3) (fun N4 =>
          if ¬ (f_X1_secondFor p1 M) = (-1) then (2, N4)
            else (1, N4)))))
  else zlet (f_X3_drop p1 M) (fun N5 =>
  (0, N5))
set_option maxRecDepth 100000 in
set_option maxHeartbeats 4000000 in
theorem k_X4_repoint (q : ZQ) (p1 : Int32) (p2 : Int32) (M : Mem) : Zc (zgX q) mX4_repoint 0 0 [.inr 0, .inl p1, .inl p2] M (wIM (f_X4_repoint p1 p2 M)) := by
  refine Zc.of (by decide) zi_X4_repoint.1 (Nat.le_of_ble_eq_true rfl) rfl ?_
  show Zg _ _ _ _ _ _ (zlet (f_X4_repoint p1 p2 M) wIM) _ _ _ _
  unfold f_X4_repoint
  refine zg_aload_n (x := 0) dX4_repoint_0 rfl ?_
  refine zg_getf (v := .inr 4) dX4_repoint_1 zf_X4_33 rfl rfl rfl ?_
  refine zg_iload_n (x := p1) dX4_repoint_4 rfl ?_
  refine zg_cV1 (As := [.inl p1]) (S := []) (v := (f_X1_firstFor p1 M)) dX4_repoint_5 zk_X4_270 (k_X1_firstFor q p1 M) rfl rfl ⟨by decide, by decide⟩ ⟨by decide, by decide⟩ rfl (Nat.le_of_ble_eq_true rfl) ?_
  refine zg_st (pc' := 8) (L' := [some (.inr 0), some (.inl p1), some (.inl p2), none, none]) (S' := [.inl (f_X1_firstFor p1 M)]) (M' := M) rfl rfl rfl rfl ?_
  refine zg_istore_n dX4_repoint_8 (by decide) ?_
  refine zg_st (pc' := 9) (L' := [some (.inr 0), some (.inl p1), some (.inl p2), some (.inl (f_X1_firstFor p1 M)), none]) (S' := []) (M' := M) rfl rfl rfl rfl ?_
  refine zg_aload_n (x := 0) dX4_repoint_9 rfl ?_
  refine zg_getf (v := .inr 4) dX4_repoint_10 zf_X4_33 rfl rfl rfl ?_
  refine zg_iload_n (x := p1) dX4_repoint_13 rfl ?_
  refine zg_cV1 (As := [.inl p1]) (S := []) (v := (f_X1_secondFor p1 M)) dX4_repoint_14 zk_X4_273 (k_X1_secondFor q p1 M) rfl rfl ⟨by decide, by decide⟩ ⟨by decide, by decide⟩ rfl (Nat.le_of_ble_eq_true rfl) ?_
  refine zg_st (pc' := 17) (L' := [some (.inr 0), some (.inl p1), some (.inl p2), some (.inl (f_X1_firstFor p1 M)), none]) (S' := [.inl (f_X1_secondFor p1 M)]) (M' := M) rfl rfl rfl rfl ?_
  refine zg_istore dX4_repoint_17 (by decide) ?_
  refine zg_st (pc' := 19) (L' := [some (.inr 0), some (.inl p1), some (.inl p2), some (.inl (f_X1_firstFor p1 M)), some (.inl (f_X1_secondFor p1 M))]) (S' := []) (M' := M) rfl rfl rfl rfl ?_
  refine zg_iload_n (x := (f_X1_firstFor p1 M)) dX4_repoint_19 rfl ?_
  refine zg_iconst (v := (-1)) dX4_repoint_20 rfl ?_
  refine zg_icmpz (tgt := 34) dX4_repoint_21 rfl rfl (fun c21 => ?_) (fun c21 => ?_)
  · refine zg_st (pc' := 34) (L' := [some (.inr 0), some (.inl p1), some (.inl p2), some (.inl (f_X1_firstFor p1 M)), some (.inl (f_X1_secondFor p1 M))]) (S' := []) (M' := M) rfl rfl rfl rfl ?_
    refine zg_aload_n (x := 0) dX4_repoint_34 rfl ?_
    refine zg_getf (v := .inr 2) dX4_repoint_35 zf_X4_19 rfl rfl rfl ?_
    refine zg_iload_n (x := p1) dX4_repoint_38 rfl ?_
    refine zg_iload_n (x := (f_X1_firstFor p1 M)) dX4_repoint_39 rfl ?_
    refine zg_iload (x := (f_X1_secondFor p1 M)) dX4_repoint_40 rfl ?_
    refine zg_cVV (As := [.inl p1, .inl (f_X1_firstFor p1 M), .inl (f_X1_secondFor p1 M)]) (S := []) dX4_repoint_42 zk_X4_280 (k_X3_point q p1 (f_X1_firstFor p1 M) (f_X1_secondFor p1 M) M) rfl rfl ⟨by decide, by decide⟩ ⟨by decide, by decide⟩ rfl (Nat.le_of_ble_eq_true rfl) (fun N1 e_N1 => ?_)
    try dsimp only
    refine zg_st (pc' := 45) (L' := [some (.inr 0), some (.inl p1), some (.inl p2), some (.inl (f_X1_firstFor p1 M)), some (.inl (f_X1_secondFor p1 M))]) (S' := []) (M' := N1) rfl rfl rfl rfl ?_
    refine zg_aload_n (x := 0) dX4_repoint_45 rfl ?_
    refine zg_getf (v := .inr 2) dX4_repoint_46 zf_X4_19 rfl rfl rfl ?_
    refine zg_iload_n (x := p1) dX4_repoint_49 rfl ?_
    refine zg_iload_n (x := p2) dX4_repoint_50 rfl ?_
    refine zg_aload_n (x := 0) dX4_repoint_51 rfl ?_
    refine zg_getf (v := .inr 3) dX4_repoint_52 zf_X4_26 rfl rfl rfl ?_
    refine zg_getf (v := .inl (N1 3 1)) dX4_repoint_55 zf_X4_137 rfl rfl rfl ?_
    refine zg_cVV (As := [.inl p1, .inl p2, .inl (N1 3 1)]) (S := []) dX4_repoint_58 zk_X4_283 (k_X3_sign q p1 p2 (N1 3 1) N1) rfl rfl ⟨by decide, by decide⟩ ⟨by decide, by decide⟩ rfl (Nat.le_of_ble_eq_true rfl) (fun N2 e_N2 => ?_)
    try dsimp only
    refine zg_st (pc' := 61) (L' := [some (.inr 0), some (.inl p1), some (.inl p2), some (.inl (f_X1_firstFor p1 M)), some (.inl (f_X1_secondFor p1 M))]) (S' := []) (M' := N2) rfl rfl rfl rfl ?_
    refine zg_aload_n (x := 0) dX4_repoint_61 rfl ?_
    refine zg_getf (v := .inr 1) dX4_repoint_62 zf_X4_12 rfl rfl rfl ?_
    refine zg_iload_n (x := (f_X1_firstFor p1 M)) dX4_repoint_65 rfl ?_
    refine zg_cVV (As := [.inl (f_X1_firstFor p1 M)]) (S := []) dX4_repoint_66 zk_X4_286 (k_X0_fill q (f_X1_firstFor p1 M) N2) rfl rfl ⟨by decide, by decide⟩ ⟨by decide, by decide⟩ rfl (Nat.le_of_ble_eq_true rfl) (fun N3 e_N3 => ?_)
    try dsimp only
    refine zg_st (pc' := 69) (L' := [some (.inr 0), some (.inl p1), some (.inl p2), some (.inl (f_X1_firstFor p1 M)), some (.inl (f_X1_secondFor p1 M))]) (S' := []) (M' := N3) rfl rfl rfl rfl ?_
    refine zg_aload_n (x := 0) dX4_repoint_69 rfl ?_
    refine zg_getf (v := .inr 1) dX4_repoint_70 zf_X4_12 rfl rfl rfl ?_
    refine zg_iload (x := (f_X1_secondFor p1 M)) dX4_repoint_73 rfl ?_
    refine zg_cVV (As := [.inl (f_X1_secondFor p1 M)]) (S := []) dX4_repoint_75 zk_X4_286 (k_X0_fill q (f_X1_secondFor p1 M) N3) rfl rfl ⟨by decide, by decide⟩ ⟨by decide, by decide⟩ rfl (Nat.le_of_ble_eq_true rfl) (fun N4 e_N4 => ?_)
    try dsimp only
    refine zg_st (pc' := 78) (L' := [some (.inr 0), some (.inl p1), some (.inl p2), some (.inl (f_X1_firstFor p1 M)), some (.inl (f_X1_secondFor p1 M))]) (S' := []) (M' := N4) rfl rfl rfl rfl ?_
    refine zg_iload (x := (f_X1_secondFor p1 M)) dX4_repoint_78 rfl ?_
    refine zg_iconst (v := (-1)) dX4_repoint_80 rfl ?_
    refine zg_icmpz (tgt := 88) dX4_repoint_81 rfl rfl (fun c81 => ?_) (fun c81 => ?_)
    · refine zg_st (pc' := 88) (L' := [some (.inr 0), some (.inl p1), some (.inl p2), some (.inl (f_X1_firstFor p1 M)), some (.inl (f_X1_secondFor p1 M))]) (S' := []) (M' := N4) rfl rfl rfl rfl ?_
      refine zg_iconst (v := 2) dX4_repoint_88 rfl ?_
      exact zg_iret dX4_repoint_89 rfl rfl ⟨by decide, by decide⟩ rfl
    · refine zg_st (pc' := 84) (L' := [some (.inr 0), some (.inl p1), some (.inl p2), some (.inl (f_X1_firstFor p1 M)), some (.inl (f_X1_secondFor p1 M))]) (S' := []) (M' := N4) rfl rfl rfl rfl ?_
      refine zg_iconst (v := 1) dX4_repoint_84 rfl ?_
      refine zg_goto (tgt := 89) dX4_repoint_85 rfl ?_
      refine zg_st (pc' := 89) (L' := [some (.inr 0), some (.inl p1), some (.inl p2), some (.inl (f_X1_firstFor p1 M)), some (.inl (f_X1_secondFor p1 M))]) (S' := [.inl 1]) (M' := N4) rfl rfl rfl rfl ?_
      exact zg_iret dX4_repoint_89 rfl rfl ⟨by decide, by decide⟩ rfl
  · refine zg_st (pc' := 24) (L' := [some (.inr 0), some (.inl p1), some (.inl p2), some (.inl (f_X1_firstFor p1 M)), some (.inl (f_X1_secondFor p1 M))]) (S' := []) (M' := M) rfl rfl rfl rfl ?_
    refine zg_aload_n (x := 0) dX4_repoint_24 rfl ?_
    refine zg_getf (v := .inr 2) dX4_repoint_25 zf_X4_19 rfl rfl rfl ?_
    refine zg_iload_n (x := p1) dX4_repoint_28 rfl ?_
    refine zg_cVV (As := [.inl p1]) (S := []) dX4_repoint_29 zk_X4_276 (k_X3_drop q p1 M) rfl rfl ⟨by decide, by decide⟩ ⟨by decide, by decide⟩ rfl (Nat.le_of_ble_eq_true rfl) (fun N5 e_N5 => ?_)
    try dsimp only
    refine zg_st (pc' := 32) (L' := [some (.inr 0), some (.inl p1), some (.inl p2), some (.inl (f_X1_firstFor p1 M)), some (.inl (f_X1_secondFor p1 M))]) (S' := []) (M' := N5) rfl rfl rfl rfl ?_
    refine zg_iconst (v := 0) dX4_repoint_32 rfl ?_
    exact zg_iret dX4_repoint_33 rfl rfl ⟨by decide, by decide⟩ rfl
theorem dX4_writeFile_0 : decode cX4_writeFile 0 = .ok (.iconst 0, 1) := by decide +kernel
theorem dX4_writeFile_1 : decode cX4_writeFile 1 = .ok (.istore_n 2, 1) := by decide +kernel
theorem dX4_writeFile_2 : decode cX4_writeFile 2 = .ok (.iconst 0, 1) := by decide +kernel
theorem dX4_writeFile_3 : decode cX4_writeFile 3 = .ok (.istore_n 3, 1) := by decide +kernel
theorem dX4_writeFile_4 : decode cX4_writeFile 4 = .ok (.iload_n 3, 1) := by decide +kernel
theorem dX4_writeFile_5 : decode cX4_writeFile 5 = .ok (.bipush 12, 2) := by decide +kernel
theorem dX4_writeFile_7 : decode cX4_writeFile 7 = .ok (.if_icmp .ge 71, 3) := by decide +kernel
theorem dX4_writeFile_10 : decode cX4_writeFile 10 = .ok (.iload_n 1, 1) := by decide +kernel
theorem dX4_writeFile_11 : decode cX4_writeFile 11 = .ok (.iload_n 3, 1) := by decide +kernel
theorem dX4_writeFile_12 : decode cX4_writeFile 12 = .ok (.invokestatic 66, 3) := by decide +kernel
theorem dX4_writeFile_15 : decode cX4_writeFile 15 = .ok (.istore 4, 2) := by decide +kernel
theorem dX4_writeFile_17 : decode cX4_writeFile 17 = .ok (.aload_n 0, 1) := by decide +kernel
theorem dX4_writeFile_18 : decode cX4_writeFile 18 = .ok (.getfield 26, 3) := by decide +kernel
theorem dX4_writeFile_21 : decode cX4_writeFile 21 = .ok (.iload 4, 2) := by decide +kernel
theorem dX4_writeFile_23 : decode cX4_writeFile 23 = .ok (.invokevirtual 86, 3) := by decide +kernel
theorem dX4_writeFile_26 : decode cX4_writeFile 26 = .ok (.ifCond .eq 46, 3) := by decide +kernel
theorem dX4_writeFile_29 : decode cX4_writeFile 29 = .ok (.aload_n 0, 1) := by decide +kernel
theorem dX4_writeFile_30 : decode cX4_writeFile 30 = .ok (.getfield 26, 3) := by decide +kernel
theorem dX4_writeFile_33 : decode cX4_writeFile 33 = .ok (.iload 4, 2) := by decide +kernel
theorem dX4_writeFile_35 : decode cX4_writeFile 35 = .ok (.invokevirtual 89, 3) := by decide +kernel
theorem dX4_writeFile_38 : decode cX4_writeFile 38 = .ok (.istore 5, 2) := by decide +kernel
theorem dX4_writeFile_40 : decode cX4_writeFile 40 = .ok (.aload_n 0, 1) := by decide +kernel
theorem dX4_writeFile_41 : decode cX4_writeFile 41 = .ok (.getfield 19, 3) := by decide +kernel
theorem dX4_writeFile_44 : decode cX4_writeFile 44 = .ok (.iload 4, 2) := by decide +kernel
theorem dX4_writeFile_46 : decode cX4_writeFile 46 = .ok (.iload 5, 2) := by decide +kernel
theorem dX4_writeFile_48 : decode cX4_writeFile 48 = .ok (.invokevirtual 266, 3) := by decide +kernel
theorem dX4_writeFile_51 : decode cX4_writeFile 51 = .ok (.iload_n 2, 1) := by decide +kernel
theorem dX4_writeFile_52 : decode cX4_writeFile 52 = .ok (.aload_n 0, 1) := by decide +kernel
theorem dX4_writeFile_53 : decode cX4_writeFile 53 = .ok (.iload 4, 2) := by decide +kernel
theorem dX4_writeFile_55 : decode cX4_writeFile 55 = .ok (.bipush 31, 2) := by decide +kernel
theorem dX4_writeFile_57 : decode cX4_writeFile 57 = .ok (.iload 5, 2) := by decide +kernel
theorem dX4_writeFile_59 : decode cX4_writeFile 59 = .ok (.imul, 1) := by decide +kernel
theorem dX4_writeFile_60 : decode cX4_writeFile 60 = .ok (.bipush 17, 2) := by decide +kernel
theorem dX4_writeFile_62 : decode cX4_writeFile 62 = .ok (.iadd, 1) := by decide +kernel
theorem dX4_writeFile_63 : decode cX4_writeFile 63 = .ok (.ldc_w 269, 3) := by decide +kernel
theorem dX4_writeFile_66 : decode cX4_writeFile 66 = .ok (.irem, 1) := by decide +kernel
theorem dX4_writeFile_67 : decode cX4_writeFile 67 = .ok (.invokevirtual 263, 3) := by decide +kernel
theorem dX4_writeFile_70 : decode cX4_writeFile 70 = .ok (.iadd, 1) := by decide +kernel
theorem dX4_writeFile_71 : decode cX4_writeFile 71 = .ok (.istore_n 2, 1) := by decide +kernel
theorem dX4_writeFile_72 : decode cX4_writeFile 72 = .ok (.iinc 3 1, 3) := by decide +kernel
theorem dX4_writeFile_75 : decode cX4_writeFile 75 = .ok (.goto (-71), 3) := by decide +kernel
theorem dX4_writeFile_78 : decode cX4_writeFile 78 = .ok (.iload_n 1, 1) := by decide +kernel
theorem dX4_writeFile_79 : decode cX4_writeFile 79 = .ok (.invokestatic 93, 3) := by decide +kernel
theorem dX4_writeFile_82 : decode cX4_writeFile 82 = .ok (.istore_n 3, 1) := by decide +kernel
theorem dX4_writeFile_83 : decode cX4_writeFile 83 = .ok (.iload_n 2, 1) := by decide +kernel
theorem dX4_writeFile_84 : decode cX4_writeFile 84 = .ok (.aload_n 0, 1) := by decide +kernel
theorem dX4_writeFile_85 : decode cX4_writeFile 85 = .ok (.iload_n 3, 1) := by decide +kernel
theorem dX4_writeFile_86 : decode cX4_writeFile 86 = .ok (.aload_n 0, 1) := by decide +kernel
theorem dX4_writeFile_87 : decode cX4_writeFile 87 = .ok (.getfield 19, 3) := by decide +kernel
theorem dX4_writeFile_90 : decode cX4_writeFile 90 = .ok (.iload_n 1, 1) := by decide +kernel
theorem dX4_writeFile_91 : decode cX4_writeFile 91 = .ok (.iconst 0, 1) := by decide +kernel
theorem dX4_writeFile_92 : decode cX4_writeFile 92 = .ok (.invokestatic 66, 3) := by decide +kernel
theorem dX4_writeFile_95 : decode cX4_writeFile 95 = .ok (.bipush 12, 2) := by decide +kernel
theorem dX4_writeFile_97 : decode cX4_writeFile 97 = .ok (.invokevirtual 260, 3) := by decide +kernel
theorem dX4_writeFile_100 : decode cX4_writeFile 100 = .ok (.invokevirtual 263, 3) := by decide +kernel
theorem dX4_writeFile_103 : decode cX4_writeFile 103 = .ok (.iadd, 1) := by decide +kernel
theorem dX4_writeFile_104 : decode cX4_writeFile 104 = .ok (.ireturn, 1) := by decide +kernel
def b_X4_writeFile_4 (x1 : Int32) (rec : Int32 → Int32 → Mem → Int32 × Int32 × Mem) (v2 : Int32) (v3 : Int32) (N : Mem) : Int32 × Int32 × Mem :=
  if 12 ≤ v3 then (v2, v3, N)
  else if (f_X2_holds (f_X4_blockPointer x1 v3) N) then zlet (f_X3_keepValue (f_X4_blockPointer x1 v3) (f_X2_changeOf (f_X4_blockPointer x1 v3) N) N) (fun N1 =>
    zlet (f_X4_repoint (f_X4_blockPointer x1 v3) (((31 * (f_X2_changeOf (f_X4_blockPointer x1 v3) N)) + 17) - ((31 * (f_X2_changeOf (f_X4_blockPointer x1 v3) N)) + 17) / 65521 * 65521) N1) (fun q2 =>
      rec (v2 + q2.1) (v3 + 1) q2.2))
  else rec v2 (v3 + 1) N
def l_X4_writeFile_4 (x1 : Int32) : Nat → Int32 → Int32 → Mem → Int32 × Int32 × Mem
  | 0, v2, v3, N => (v2, v3, N)
  | n + 1, v2, v3, N => b_X4_writeFile_4 x1 (l_X4_writeFile_4 x1 n) v2 v3 N
set_option maxRecDepth 100000 in
set_option maxHeartbeats 4000000 in
theorem kl_X4_writeFile_4 (q : ZQ) (x1 : Int32) {K : Int32 × Int32 × Mem → ZR} (hx : ∀ e : Int32 × Int32 × Mem, Zg (zgX q) mX4_writeFile 0 0 0 0 (K e) 78 [some (.inr 0), some (.inl x1), some (.inl e.1), some (.inl e.2.1), none, none] [] e.2.2) :
    ∀ (n : Nat) (v2 : Int32) (v3 : Int32) (N : Mem), ((12 : Int32).toInt - (v3 : Int32).toInt).toNat < n → Zg (zgX q) mX4_writeFile 0 0 0 0 (zlet (l_X4_writeFile_4 x1 n v2 v3 N) K) 4 [some (.inr 0), some (.inl x1), some (.inl v2), some (.inl v3), none, none] [] N := by
  intro n
  induction n with
  | zero => intro v2 v3 N hm; exact absurd hm (Nat.not_lt_zero _)
  | succ n ih =>
    intro v2 v3 N hm
    show Zg _ _ _ _ _ _ (zlet (b_X4_writeFile_4 x1 (l_X4_writeFile_4 x1 n) v2 v3 N) K) _ _ _ _
    unfold b_X4_writeFile_4
    refine zg_iload_n (x := v3) dX4_writeFile_4 rfl ?_
    refine zg_bipush (v := 12) dX4_writeFile_5 rfl ?_
    refine zg_icmpz (tgt := 78) dX4_writeFile_7 rfl rfl (fun c7 => ?_) (fun c7 => ?_)
    · refine zg_st (pc' := 78) (L' := [some (.inr 0), some (.inl x1), some (.inl v2), some (.inl v3), none, none]) (S' := []) (M' := N) rfl rfl rfl rfl ?_
      refine zg_drop (L' := [some (.inr 0), some (.inl x1), some (.inl v2), some (.inl v3), none, none]) ⟨rfl, rfl, rfl, rfl, trivial⟩ ?_
      exact hx (v2, v3, N)
    · refine zg_st (pc' := 10) (L' := [some (.inr 0), some (.inl x1), some (.inl v2), some (.inl v3), none, none]) (S' := []) (M' := N) rfl rfl rfl rfl ?_
      refine zg_iload_n (x := x1) dX4_writeFile_10 rfl ?_
      refine zg_iload_n (x := v3) dX4_writeFile_11 rfl ?_
      refine zg_cS1 (As := [.inl x1, .inl v3]) (S := []) (v := (f_X4_blockPointer x1 v3)) dX4_writeFile_12 zk_X4_66 (k_X4_blockPointer q x1 v3 N) rfl ⟨by decide, by decide⟩ ⟨by decide, by decide⟩ rfl (Nat.le_of_ble_eq_true rfl) ?_
      refine zg_st (pc' := 15) (L' := [some (.inr 0), some (.inl x1), some (.inl v2), some (.inl v3), none, none]) (S' := [.inl (f_X4_blockPointer x1 v3)]) (M' := N) rfl rfl rfl rfl ?_
      refine zg_istore dX4_writeFile_15 (by decide) ?_
      refine zg_st (pc' := 17) (L' := [some (.inr 0), some (.inl x1), some (.inl v2), some (.inl v3), some (.inl (f_X4_blockPointer x1 v3)), none]) (S' := []) (M' := N) rfl rfl rfl rfl ?_
      refine zg_aload_n (x := 0) dX4_writeFile_17 rfl ?_
      refine zg_getf (v := .inr 3) dX4_writeFile_18 zf_X4_26 rfl rfl rfl ?_
      refine zg_iload (x := (f_X4_blockPointer x1 v3)) dX4_writeFile_21 rfl ?_
      refine zg_cV1 (As := [.inl (f_X4_blockPointer x1 v3)]) (S := []) (v := bI ((f_X2_holds (f_X4_blockPointer x1 v3) N))) dX4_writeFile_23 zk_X4_86 (k_X2_holds q (f_X4_blockPointer x1 v3) N) rfl rfl ⟨by decide, by decide⟩ ⟨by decide, by decide⟩ rfl (Nat.le_of_ble_eq_true rfl) ?_
      refine zg_st (pc' := 26) (L' := [some (.inr 0), some (.inl x1), some (.inl v2), some (.inl v3), some (.inl (f_X4_blockPointer x1 v3)), none]) (S' := [.inl (bI ((f_X2_holds (f_X4_blockPointer x1 v3) N)))]) (M' := N) rfl rfl rfl rfl ?_
      refine zg_ifbe (tgt := 72) dX4_writeFile_26 rfl (fun c26 => ?_) (fun c26 => ?_)
      · refine zg_st (pc' := 29) (L' := [some (.inr 0), some (.inl x1), some (.inl v2), some (.inl v3), some (.inl (f_X4_blockPointer x1 v3)), none]) (S' := []) (M' := N) rfl rfl rfl rfl ?_
        refine zg_aload_n (x := 0) dX4_writeFile_29 rfl ?_
        refine zg_getf (v := .inr 3) dX4_writeFile_30 zf_X4_26 rfl rfl rfl ?_
        refine zg_iload (x := (f_X4_blockPointer x1 v3)) dX4_writeFile_33 rfl ?_
        refine zg_cV1 (As := [.inl (f_X4_blockPointer x1 v3)]) (S := []) (v := (f_X2_changeOf (f_X4_blockPointer x1 v3) N)) dX4_writeFile_35 zk_X4_89 (k_X2_changeOf q (f_X4_blockPointer x1 v3) N) rfl rfl ⟨by decide, by decide⟩ ⟨by decide, by decide⟩ rfl (Nat.le_of_ble_eq_true rfl) ?_
        refine zg_st (pc' := 38) (L' := [some (.inr 0), some (.inl x1), some (.inl v2), some (.inl v3), some (.inl (f_X4_blockPointer x1 v3)), none]) (S' := [.inl (f_X2_changeOf (f_X4_blockPointer x1 v3) N)]) (M' := N) rfl rfl rfl rfl ?_
        refine zg_istore dX4_writeFile_38 (by decide) ?_
        refine zg_st (pc' := 40) (L' := [some (.inr 0), some (.inl x1), some (.inl v2), some (.inl v3), some (.inl (f_X4_blockPointer x1 v3)), some (.inl (f_X2_changeOf (f_X4_blockPointer x1 v3) N))]) (S' := []) (M' := N) rfl rfl rfl rfl ?_
        refine zg_aload_n (x := 0) dX4_writeFile_40 rfl ?_
        refine zg_getf (v := .inr 2) dX4_writeFile_41 zf_X4_19 rfl rfl rfl ?_
        refine zg_iload (x := (f_X4_blockPointer x1 v3)) dX4_writeFile_44 rfl ?_
        refine zg_iload (x := (f_X2_changeOf (f_X4_blockPointer x1 v3) N)) dX4_writeFile_46 rfl ?_
        refine zg_cVV (As := [.inl (f_X4_blockPointer x1 v3), .inl (f_X2_changeOf (f_X4_blockPointer x1 v3) N)]) (S := []) dX4_writeFile_48 zk_X4_266 (k_X3_keepValue q (f_X4_blockPointer x1 v3) (f_X2_changeOf (f_X4_blockPointer x1 v3) N) N) rfl rfl ⟨by decide, by decide⟩ ⟨by decide, by decide⟩ rfl (Nat.le_of_ble_eq_true rfl) (fun N1 e_N1 => ?_)
        try dsimp only
        refine zg_st (pc' := 51) (L' := [some (.inr 0), some (.inl x1), some (.inl v2), some (.inl v3), some (.inl (f_X4_blockPointer x1 v3)), some (.inl (f_X2_changeOf (f_X4_blockPointer x1 v3) N))]) (S' := []) (M' := N1) rfl rfl rfl rfl ?_
        refine zg_iload_n (x := v2) dX4_writeFile_51 rfl ?_
        refine zg_aload_n (x := 0) dX4_writeFile_52 rfl ?_
        refine zg_iload (x := (f_X4_blockPointer x1 v3)) dX4_writeFile_53 rfl ?_
        refine zg_bipush (v := 31) dX4_writeFile_55 rfl ?_
        refine zg_iload (x := (f_X2_changeOf (f_X4_blockPointer x1 v3) N)) dX4_writeFile_57 rfl ?_
        refine zg_imul dX4_writeFile_59 ?_
        refine zg_bipush (v := 17) dX4_writeFile_60 rfl ?_
        refine zg_iadd dX4_writeFile_62 ?_
        refine zg_ldcw (v := 65521) dX4_writeFile_63 (zm3 143 (by decide +kernel) rfl) ?_
        refine zg_irem dX4_writeFile_66 (by decide) ?_
        refine zg_cVIM (As := [.inl (f_X4_blockPointer x1 v3), .inl (((31 * (f_X2_changeOf (f_X4_blockPointer x1 v3) N)) + 17) - ((31 * (f_X2_changeOf (f_X4_blockPointer x1 v3) N)) + 17) / 65521 * 65521)]) (S := [.inl v2]) dX4_writeFile_67 zk_X4_263 (k_X4_repoint q (f_X4_blockPointer x1 v3) (((31 * (f_X2_changeOf (f_X4_blockPointer x1 v3) N)) + 17) - ((31 * (f_X2_changeOf (f_X4_blockPointer x1 v3) N)) + 17) / 65521 * 65521) N1) rfl rfl ⟨by decide, by decide⟩ ⟨by decide, by decide⟩ rfl (Nat.le_of_ble_eq_true rfl) (fun q2 e_q2 => ?_)
        try dsimp only
        refine zg_st (pc' := 70) (L' := [some (.inr 0), some (.inl x1), some (.inl v2), some (.inl v3), some (.inl (f_X4_blockPointer x1 v3)), some (.inl (f_X2_changeOf (f_X4_blockPointer x1 v3) N))]) (S' := [.inl q2.1, .inl v2]) (M' := q2.2) rfl rfl rfl rfl ?_
        refine zg_iadd dX4_writeFile_70 ?_
        refine zg_istore_n dX4_writeFile_71 (by decide) ?_
        refine zg_st (pc' := 72) (L' := [some (.inr 0), some (.inl x1), some (.inl (v2 + q2.1)), some (.inl v3), some (.inl (f_X4_blockPointer x1 v3)), some (.inl (f_X2_changeOf (f_X4_blockPointer x1 v3) N))]) (S' := []) (M' := q2.2) rfl rfl rfl rfl ?_
        refine zg_iinc (v := (v3 + 1)) dX4_writeFile_72 rfl (by decide) rfl ?_
        refine zg_st (pc' := 75) (L' := [some (.inr 0), some (.inl x1), some (.inl (v2 + q2.1)), some (.inl (v3 + 1)), some (.inl (f_X4_blockPointer x1 v3)), some (.inl (f_X2_changeOf (f_X4_blockPointer x1 v3) N))]) (S' := []) (M' := q2.2) rfl rfl rfl rfl ?_
        refine zg_goto (tgt := 4) dX4_writeFile_75 rfl ?_
        refine zg_st (pc' := 4) (L' := [some (.inr 0), some (.inl x1), some (.inl (v2 + q2.1)), some (.inl (v3 + 1)), some (.inl (f_X4_blockPointer x1 v3)), some (.inl (f_X2_changeOf (f_X4_blockPointer x1 v3) N))]) (S' := []) (M' := q2.2) rfl rfl rfl rfl ?_
        refine zg_drop (L' := [some (.inr 0), some (.inl x1), some (.inl (v2 + q2.1)), some (.inl (v3 + 1)), none, none]) ⟨rfl, rfl, rfl, rfl, trivial⟩ ?_
        exact ih (v2 + q2.1) (v3 + 1) q2.2 (z_up c7 hm)
      · refine zg_st (pc' := 72) (L' := [some (.inr 0), some (.inl x1), some (.inl v2), some (.inl v3), some (.inl (f_X4_blockPointer x1 v3)), none]) (S' := []) (M' := N) rfl rfl rfl rfl ?_
        refine zg_iinc (v := (v3 + 1)) dX4_writeFile_72 rfl (by decide) rfl ?_
        refine zg_st (pc' := 75) (L' := [some (.inr 0), some (.inl x1), some (.inl v2), some (.inl (v3 + 1)), some (.inl (f_X4_blockPointer x1 v3)), none]) (S' := []) (M' := N) rfl rfl rfl rfl ?_
        refine zg_goto (tgt := 4) dX4_writeFile_75 rfl ?_
        refine zg_st (pc' := 4) (L' := [some (.inr 0), some (.inl x1), some (.inl v2), some (.inl (v3 + 1)), some (.inl (f_X4_blockPointer x1 v3)), none]) (S' := []) (M' := N) rfl rfl rfl rfl ?_
        refine zg_drop (L' := [some (.inr 0), some (.inl x1), some (.inl v2), some (.inl (v3 + 1)), none, none]) ⟨rfl, rfl, rfl, rfl, trivial⟩ ?_
        exact ih v2 (v3 + 1) N (z_up c7 hm)
def f_X4_writeFile (p1 : Int32) (M : Mem) : (Int32 × Mem) :=
  zlet (l_X4_writeFile_4 p1 13 0 0 M) (fun s3 =>
  zlet (f_X4_repoint (f_X4_filePointer p1) (f_X3_checksumOfNode (f_X4_blockPointer p1 0) 12 s3.2.2) s3.2.2) (fun q4 =>
    ((s3.1 + q4.1), q4.2)))
set_option maxRecDepth 100000 in
set_option maxHeartbeats 4000000 in
theorem k_X4_writeFile (q : ZQ) (p1 : Int32) (M : Mem) : Zc (zgX q) mX4_writeFile 0 0 [.inr 0, .inl p1] M (wIM (f_X4_writeFile p1 M)) := by
  refine Zc.of (by decide) zi_X4_writeFile.1 (Nat.le_of_ble_eq_true rfl) rfl ?_
  show Zg _ _ _ _ _ _ (zlet (f_X4_writeFile p1 M) wIM) _ _ _ _
  unfold f_X4_writeFile
  refine zg_iconst (v := 0) dX4_writeFile_0 rfl ?_
  refine zg_istore_n dX4_writeFile_1 (by decide) ?_
  refine zg_st (pc' := 2) (L' := [some (.inr 0), some (.inl p1), some (.inl 0), none, none, none]) (S' := []) (M' := M) rfl rfl rfl rfl ?_
  refine zg_iconst (v := 0) dX4_writeFile_2 rfl ?_
  refine zg_istore_n dX4_writeFile_3 (by decide) ?_
  refine zg_st (pc' := 4) (L' := [some (.inr 0), some (.inl p1), some (.inl 0), some (.inl 0), none, none]) (S' := []) (M' := M) rfl rfl rfl rfl ?_
  refine zg_asc ?_
  refine zg_drop (L' := [some (.inr 0), some (.inl p1), some (.inl 0), some (.inl 0), none, none]) ⟨rfl, rfl, rfl, rfl, trivial⟩ ?_
  refine kl_X4_writeFile_4 q p1  (fun s3 => ?_) 13 0 0 M (by decide)
  try dsimp only [Sum.elim_inr]
  refine zg_st (pc' := 78) (L' := [some (.inr 0), some (.inl p1), some (.inl s3.1), some (.inl s3.2.1), none, none]) (S' := []) (M' := s3.2.2) rfl rfl rfl rfl ?_
  refine zg_iload_n (x := p1) dX4_writeFile_78 rfl ?_
  refine zg_cS1 (As := [.inl p1]) (S := []) (v := (f_X4_filePointer p1)) dX4_writeFile_79 zk_X4_93 (k_X4_filePointer q p1 s3.2.2) rfl ⟨by decide, by decide⟩ ⟨by decide, by decide⟩ rfl (Nat.le_of_ble_eq_true rfl) ?_
  refine zg_st (pc' := 82) (L' := [some (.inr 0), some (.inl p1), some (.inl s3.1), some (.inl s3.2.1), none, none]) (S' := [.inl (f_X4_filePointer p1)]) (M' := s3.2.2) rfl rfl rfl rfl ?_
  refine zg_istore_n dX4_writeFile_82 (by decide) ?_
  refine zg_st (pc' := 83) (L' := [some (.inr 0), some (.inl p1), some (.inl s3.1), some (.inl (f_X4_filePointer p1)), none, none]) (S' := []) (M' := s3.2.2) rfl rfl rfl rfl ?_
  refine zg_iload_n (x := s3.1) dX4_writeFile_83 rfl ?_
  refine zg_aload_n (x := 0) dX4_writeFile_84 rfl ?_
  refine zg_iload_n (x := (f_X4_filePointer p1)) dX4_writeFile_85 rfl ?_
  refine zg_aload_n (x := 0) dX4_writeFile_86 rfl ?_
  refine zg_getf (v := .inr 2) dX4_writeFile_87 zf_X4_19 rfl rfl rfl ?_
  refine zg_iload_n (x := p1) dX4_writeFile_90 rfl ?_
  refine zg_iconst (v := 0) dX4_writeFile_91 rfl ?_
  refine zg_cS1 (As := [.inl p1, .inl 0]) (S := [.inr 2, .inl (f_X4_filePointer p1), .inr 0, .inl s3.1]) (v := (f_X4_blockPointer p1 0)) dX4_writeFile_92 zk_X4_66 (k_X4_blockPointer q p1 0 s3.2.2) rfl ⟨by decide, by decide⟩ ⟨by decide, by decide⟩ rfl (Nat.le_of_ble_eq_true rfl) ?_
  refine zg_st (pc' := 95) (L' := [some (.inr 0), some (.inl p1), some (.inl s3.1), some (.inl (f_X4_filePointer p1)), none, none]) (S' := [.inl (f_X4_blockPointer p1 0), .inr 2, .inl (f_X4_filePointer p1), .inr 0, .inl s3.1]) (M' := s3.2.2) rfl rfl rfl rfl ?_
  refine zg_bipush (v := 12) dX4_writeFile_95 rfl ?_
  refine zg_cV1 (As := [.inl (f_X4_blockPointer p1 0), .inl 12]) (S := [.inl (f_X4_filePointer p1), .inr 0, .inl s3.1]) (v := (f_X3_checksumOfNode (f_X4_blockPointer p1 0) 12 s3.2.2)) dX4_writeFile_97 zk_X4_260 (k_X3_checksumOfNode q (f_X4_blockPointer p1 0) 12 s3.2.2) rfl rfl ⟨by decide, by decide⟩ ⟨by decide, by decide⟩ rfl (Nat.le_of_ble_eq_true rfl) ?_
  refine zg_st (pc' := 100) (L' := [some (.inr 0), some (.inl p1), some (.inl s3.1), some (.inl (f_X4_filePointer p1)), none, none]) (S' := [.inl (f_X3_checksumOfNode (f_X4_blockPointer p1 0) 12 s3.2.2), .inl (f_X4_filePointer p1), .inr 0, .inl s3.1]) (M' := s3.2.2) rfl rfl rfl rfl ?_
  refine zg_cVIM (As := [.inl (f_X4_filePointer p1), .inl (f_X3_checksumOfNode (f_X4_blockPointer p1 0) 12 s3.2.2)]) (S := [.inl s3.1]) dX4_writeFile_100 zk_X4_263 (k_X4_repoint q (f_X4_filePointer p1) (f_X3_checksumOfNode (f_X4_blockPointer p1 0) 12 s3.2.2) s3.2.2) rfl rfl ⟨by decide, by decide⟩ ⟨by decide, by decide⟩ rfl (Nat.le_of_ble_eq_true rfl) (fun q4 e_q4 => ?_)
  try dsimp only
  refine zg_st (pc' := 103) (L' := [some (.inr 0), some (.inl p1), some (.inl s3.1), some (.inl (f_X4_filePointer p1)), none, none]) (S' := [.inl q4.1, .inl s3.1]) (M' := q4.2) rfl rfl rfl rfl ?_
  refine zg_iadd dX4_writeFile_103 ?_
  exact zg_iret dX4_writeFile_104 rfl rfl ⟨by decide, by decide⟩ rfl
theorem dX4_writeChanges_0 : decode cX4_writeChanges 0 = .ok (.iconst 0, 1) := by decide +kernel
theorem dX4_writeChanges_1 : decode cX4_writeChanges 1 = .ok (.istore_n 1, 1) := by decide +kernel
theorem dX4_writeChanges_2 : decode cX4_writeChanges 2 = .ok (.iconst 0, 1) := by decide +kernel
theorem dX4_writeChanges_3 : decode cX4_writeChanges 3 = .ok (.istore_n 2, 1) := by decide +kernel
theorem dX4_writeChanges_4 : decode cX4_writeChanges 4 = .ok (.iload_n 2, 1) := by decide +kernel
theorem dX4_writeChanges_5 : decode cX4_writeChanges 5 = .ok (.iconst 4, 1) := by decide +kernel
theorem dX4_writeChanges_6 : decode cX4_writeChanges 6 = .ok (.if_icmp .ge 28, 3) := by decide +kernel
theorem dX4_writeChanges_9 : decode cX4_writeChanges 9 = .ok (.aload_n 0, 1) := by decide +kernel
theorem dX4_writeChanges_10 : decode cX4_writeChanges 10 = .ok (.getfield 26, 3) := by decide +kernel
theorem dX4_writeChanges_13 : decode cX4_writeChanges 13 = .ok (.iload_n 2, 1) := by decide +kernel
theorem dX4_writeChanges_14 : decode cX4_writeChanges 14 = .ok (.invokevirtual 244, 3) := by decide +kernel
theorem dX4_writeChanges_17 : decode cX4_writeChanges 17 = .ok (.ifCond .eq 11, 3) := by decide +kernel
theorem dX4_writeChanges_20 : decode cX4_writeChanges 20 = .ok (.iload_n 1, 1) := by decide +kernel
theorem dX4_writeChanges_21 : decode cX4_writeChanges 21 = .ok (.aload_n 0, 1) := by decide +kernel
theorem dX4_writeChanges_22 : decode cX4_writeChanges 22 = .ok (.iload_n 2, 1) := by decide +kernel
theorem dX4_writeChanges_23 : decode cX4_writeChanges 23 = .ok (.invokevirtual 257, 3) := by decide +kernel
theorem dX4_writeChanges_26 : decode cX4_writeChanges 26 = .ok (.iadd, 1) := by decide +kernel
theorem dX4_writeChanges_27 : decode cX4_writeChanges 27 = .ok (.istore_n 1, 1) := by decide +kernel
theorem dX4_writeChanges_28 : decode cX4_writeChanges 28 = .ok (.iinc 2 1, 3) := by decide +kernel
theorem dX4_writeChanges_31 : decode cX4_writeChanges 31 = .ok (.goto (-27), 3) := by decide +kernel
theorem dX4_writeChanges_34 : decode cX4_writeChanges 34 = .ok (.iload_n 1, 1) := by decide +kernel
theorem dX4_writeChanges_35 : decode cX4_writeChanges 35 = .ok (.aload_n 0, 1) := by decide +kernel
theorem dX4_writeChanges_36 : decode cX4_writeChanges 36 = .ok (.bipush 52, 2) := by decide +kernel
theorem dX4_writeChanges_38 : decode cX4_writeChanges 38 = .ok (.aload_n 0, 1) := by decide +kernel
theorem dX4_writeChanges_39 : decode cX4_writeChanges 39 = .ok (.getfield 19, 3) := by decide +kernel
theorem dX4_writeChanges_42 : decode cX4_writeChanges 42 = .ok (.bipush 48, 2) := by decide +kernel
theorem dX4_writeChanges_44 : decode cX4_writeChanges 44 = .ok (.iconst 4, 1) := by decide +kernel
theorem dX4_writeChanges_45 : decode cX4_writeChanges 45 = .ok (.invokevirtual 260, 3) := by decide +kernel
theorem dX4_writeChanges_48 : decode cX4_writeChanges 48 = .ok (.invokevirtual 263, 3) := by decide +kernel
theorem dX4_writeChanges_51 : decode cX4_writeChanges 51 = .ok (.iadd, 1) := by decide +kernel
theorem dX4_writeChanges_52 : decode cX4_writeChanges 52 = .ok (.ireturn, 1) := by decide +kernel
def b_X4_writeChanges_4 (rec : Int32 → Int32 → Mem → Int32 × Int32 × Mem) (v1 : Int32) (v2 : Int32) (N : Mem) : Int32 × Int32 × Mem :=
  if 4 ≤ v2 then (v1, v2, N)
  else if (f_X2_changes v2 N) then zlet (f_X4_writeFile v2 N) (fun q1 =>
    rec (v1 + q1.1) (v2 + 1) q1.2)
  else rec v1 (v2 + 1) N
def l_X4_writeChanges_4 : Nat → Int32 → Int32 → Mem → Int32 × Int32 × Mem
  | 0, v1, v2, N => (v1, v2, N)
  | n + 1, v1, v2, N => b_X4_writeChanges_4 (l_X4_writeChanges_4 n) v1 v2 N
set_option maxRecDepth 100000 in
set_option maxHeartbeats 4000000 in
theorem kl_X4_writeChanges_4 (q : ZQ) {K : Int32 × Int32 × Mem → ZR} (hx : ∀ e : Int32 × Int32 × Mem, Zg (zgX q) mX4_writeChanges 0 0 0 0 (K e) 34 [some (.inr 0), some (.inl e.1), some (.inl e.2.1)] [] e.2.2) :
    ∀ (n : Nat) (v1 : Int32) (v2 : Int32) (N : Mem), ((4 : Int32).toInt - (v2 : Int32).toInt).toNat < n → Zg (zgX q) mX4_writeChanges 0 0 0 0 (zlet (l_X4_writeChanges_4 n v1 v2 N) K) 4 [some (.inr 0), some (.inl v1), some (.inl v2)] [] N := by
  intro n
  induction n with
  | zero => intro v1 v2 N hm; exact absurd hm (Nat.not_lt_zero _)
  | succ n ih =>
    intro v1 v2 N hm
    show Zg _ _ _ _ _ _ (zlet (b_X4_writeChanges_4 (l_X4_writeChanges_4 n) v1 v2 N) K) _ _ _ _
    unfold b_X4_writeChanges_4
    refine zg_iload_n (x := v2) dX4_writeChanges_4 rfl ?_
    refine zg_iconst (v := 4) dX4_writeChanges_5 rfl ?_
    refine zg_icmpz (tgt := 34) dX4_writeChanges_6 rfl rfl (fun c6 => ?_) (fun c6 => ?_)
    · refine zg_st (pc' := 34) (L' := [some (.inr 0), some (.inl v1), some (.inl v2)]) (S' := []) (M' := N) rfl rfl rfl rfl ?_
      refine zg_drop (L' := [some (.inr 0), some (.inl v1), some (.inl v2)]) ⟨rfl, rfl, rfl, trivial⟩ ?_
      exact hx (v1, v2, N)
    · refine zg_st (pc' := 9) (L' := [some (.inr 0), some (.inl v1), some (.inl v2)]) (S' := []) (M' := N) rfl rfl rfl rfl ?_
      refine zg_aload_n (x := 0) dX4_writeChanges_9 rfl ?_
      refine zg_getf (v := .inr 3) dX4_writeChanges_10 zf_X4_26 rfl rfl rfl ?_
      refine zg_iload_n (x := v2) dX4_writeChanges_13 rfl ?_
      refine zg_cV1 (As := [.inl v2]) (S := []) (v := bI ((f_X2_changes v2 N))) dX4_writeChanges_14 zk_X4_244 (k_X2_changes q v2 N) rfl rfl ⟨by decide, by decide⟩ ⟨by decide, by decide⟩ rfl (Nat.le_of_ble_eq_true rfl) ?_
      refine zg_st (pc' := 17) (L' := [some (.inr 0), some (.inl v1), some (.inl v2)]) (S' := [.inl (bI ((f_X2_changes v2 N)))]) (M' := N) rfl rfl rfl rfl ?_
      refine zg_ifbe (tgt := 28) dX4_writeChanges_17 rfl (fun c17 => ?_) (fun c17 => ?_)
      · refine zg_st (pc' := 20) (L' := [some (.inr 0), some (.inl v1), some (.inl v2)]) (S' := []) (M' := N) rfl rfl rfl rfl ?_
        refine zg_iload_n (x := v1) dX4_writeChanges_20 rfl ?_
        refine zg_aload_n (x := 0) dX4_writeChanges_21 rfl ?_
        refine zg_iload_n (x := v2) dX4_writeChanges_22 rfl ?_
        refine zg_cVIM (As := [.inl v2]) (S := [.inl v1]) dX4_writeChanges_23 zk_X4_257 (k_X4_writeFile q v2 N) rfl rfl ⟨by decide, by decide⟩ ⟨by decide, by decide⟩ rfl (Nat.le_of_ble_eq_true rfl) (fun q1 e_q1 => ?_)
        try dsimp only
        refine zg_st (pc' := 26) (L' := [some (.inr 0), some (.inl v1), some (.inl v2)]) (S' := [.inl q1.1, .inl v1]) (M' := q1.2) rfl rfl rfl rfl ?_
        refine zg_iadd dX4_writeChanges_26 ?_
        refine zg_istore_n dX4_writeChanges_27 (by decide) ?_
        refine zg_st (pc' := 28) (L' := [some (.inr 0), some (.inl (v1 + q1.1)), some (.inl v2)]) (S' := []) (M' := q1.2) rfl rfl rfl rfl ?_
        refine zg_iinc (v := (v2 + 1)) dX4_writeChanges_28 rfl (by decide) rfl ?_
        refine zg_st (pc' := 31) (L' := [some (.inr 0), some (.inl (v1 + q1.1)), some (.inl (v2 + 1))]) (S' := []) (M' := q1.2) rfl rfl rfl rfl ?_
        refine zg_goto (tgt := 4) dX4_writeChanges_31 rfl ?_
        refine zg_st (pc' := 4) (L' := [some (.inr 0), some (.inl (v1 + q1.1)), some (.inl (v2 + 1))]) (S' := []) (M' := q1.2) rfl rfl rfl rfl ?_
        refine zg_drop (L' := [some (.inr 0), some (.inl (v1 + q1.1)), some (.inl (v2 + 1))]) ⟨rfl, rfl, rfl, trivial⟩ ?_
        exact ih (v1 + q1.1) (v2 + 1) q1.2 (z_up c6 hm)
      · refine zg_st (pc' := 28) (L' := [some (.inr 0), some (.inl v1), some (.inl v2)]) (S' := []) (M' := N) rfl rfl rfl rfl ?_
        refine zg_iinc (v := (v2 + 1)) dX4_writeChanges_28 rfl (by decide) rfl ?_
        refine zg_st (pc' := 31) (L' := [some (.inr 0), some (.inl v1), some (.inl (v2 + 1))]) (S' := []) (M' := N) rfl rfl rfl rfl ?_
        refine zg_goto (tgt := 4) dX4_writeChanges_31 rfl ?_
        refine zg_st (pc' := 4) (L' := [some (.inr 0), some (.inl v1), some (.inl (v2 + 1))]) (S' := []) (M' := N) rfl rfl rfl rfl ?_
        refine zg_drop (L' := [some (.inr 0), some (.inl v1), some (.inl (v2 + 1))]) ⟨rfl, rfl, rfl, trivial⟩ ?_
        exact ih v1 (v2 + 1) N (z_up c6 hm)
def f_X4_writeChanges (M : Mem) : (Int32 × Mem) :=
  zlet (l_X4_writeChanges_4 5 0 0 M) (fun s2 =>
  zlet (f_X4_repoint 52 (f_X3_checksumOfNode 48 4 s2.2.2) s2.2.2) (fun q3 =>
    ((s2.1 + q3.1), q3.2)))
set_option maxRecDepth 100000 in
set_option maxHeartbeats 4000000 in
theorem k_X4_writeChanges (q : ZQ) (M : Mem) : Zc (zgX q) mX4_writeChanges 0 0 [.inr 0] M (wIM (f_X4_writeChanges M)) := by
  refine Zc.of (by decide) zi_X4_writeChanges.1 (Nat.le_of_ble_eq_true rfl) rfl ?_
  show Zg _ _ _ _ _ _ (zlet (f_X4_writeChanges M) wIM) _ _ _ _
  unfold f_X4_writeChanges
  refine zg_iconst (v := 0) dX4_writeChanges_0 rfl ?_
  refine zg_istore_n dX4_writeChanges_1 (by decide) ?_
  refine zg_st (pc' := 2) (L' := [some (.inr 0), some (.inl 0), none]) (S' := []) (M' := M) rfl rfl rfl rfl ?_
  refine zg_iconst (v := 0) dX4_writeChanges_2 rfl ?_
  refine zg_istore_n dX4_writeChanges_3 (by decide) ?_
  refine zg_st (pc' := 4) (L' := [some (.inr 0), some (.inl 0), some (.inl 0)]) (S' := []) (M' := M) rfl rfl rfl rfl ?_
  refine zg_asc ?_
  refine zg_drop (L' := [some (.inr 0), some (.inl 0), some (.inl 0)]) ⟨rfl, rfl, rfl, trivial⟩ ?_
  refine kl_X4_writeChanges_4 q  (fun s2 => ?_) 5 0 0 M (by decide)
  try dsimp only [Sum.elim_inr]
  refine zg_st (pc' := 34) (L' := [some (.inr 0), some (.inl s2.1), some (.inl s2.2.1)]) (S' := []) (M' := s2.2.2) rfl rfl rfl rfl ?_
  refine zg_iload_n (x := s2.1) dX4_writeChanges_34 rfl ?_
  refine zg_aload_n (x := 0) dX4_writeChanges_35 rfl ?_
  refine zg_bipush (v := 52) dX4_writeChanges_36 rfl ?_
  refine zg_aload_n (x := 0) dX4_writeChanges_38 rfl ?_
  refine zg_getf (v := .inr 2) dX4_writeChanges_39 zf_X4_19 rfl rfl rfl ?_
  refine zg_bipush (v := 48) dX4_writeChanges_42 rfl ?_
  refine zg_iconst (v := 4) dX4_writeChanges_44 rfl ?_
  refine zg_cV1 (As := [.inl 48, .inl 4]) (S := [.inl 52, .inr 0, .inl s2.1]) (v := (f_X3_checksumOfNode 48 4 s2.2.2)) dX4_writeChanges_45 zk_X4_260 (k_X3_checksumOfNode q 48 4 s2.2.2) rfl rfl ⟨by decide, by decide⟩ ⟨by decide, by decide⟩ rfl (Nat.le_of_ble_eq_true rfl) ?_
  refine zg_st (pc' := 48) (L' := [some (.inr 0), some (.inl s2.1), some (.inl s2.2.1)]) (S' := [.inl (f_X3_checksumOfNode 48 4 s2.2.2), .inl 52, .inr 0, .inl s2.1]) (M' := s2.2.2) rfl rfl rfl rfl ?_
  refine zg_cVIM (As := [.inl 52, .inl (f_X3_checksumOfNode 48 4 s2.2.2)]) (S := [.inl s2.1]) dX4_writeChanges_48 zk_X4_263 (k_X4_repoint q 52 (f_X3_checksumOfNode 48 4 s2.2.2) s2.2.2) rfl rfl ⟨by decide, by decide⟩ ⟨by decide, by decide⟩ rfl (Nat.le_of_ble_eq_true rfl) (fun q3 e_q3 => ?_)
  try dsimp only
  refine zg_st (pc' := 51) (L' := [some (.inr 0), some (.inl s2.1), some (.inl s2.2.1)]) (S' := [.inl q3.1, .inl s2.1]) (M' := q3.2) rfl rfl rfl rfl ?_
  refine zg_iadd dX4_writeChanges_51 ?_
  exact zg_iret dX4_writeChanges_52 rfl rfl ⟨by decide, by decide⟩ rfl
theorem dX4_freeWhatIsNotPointedTo_0 : decode cX4_freeWhatIsNotPointedTo 0 = .ok (.aload_n 0, 1) := by decide +kernel
theorem dX4_freeWhatIsNotPointedTo_1 : decode cX4_freeWhatIsNotPointedTo 1 = .ok (.getfield 12, 3) := by decide +kernel
theorem dX4_freeWhatIsNotPointedTo_4 : decode cX4_freeWhatIsNotPointedTo 4 = .ok (.invokevirtual 288, 3) := by decide +kernel
theorem dX4_freeWhatIsNotPointedTo_7 : decode cX4_freeWhatIsNotPointedTo 7 = .ok (.iconst 0, 1) := by decide +kernel
theorem dX4_freeWhatIsNotPointedTo_8 : decode cX4_freeWhatIsNotPointedTo 8 = .ok (.istore_n 1, 1) := by decide +kernel
theorem dX4_freeWhatIsNotPointedTo_9 : decode cX4_freeWhatIsNotPointedTo 9 = .ok (.iload_n 1, 1) := by decide +kernel
theorem dX4_freeWhatIsNotPointedTo_10 : decode cX4_freeWhatIsNotPointedTo 10 = .ok (.bipush 53, 2) := by decide +kernel
theorem dX4_freeWhatIsNotPointedTo_12 : decode cX4_freeWhatIsNotPointedTo 12 = .ok (.if_icmp .ge 38, 3) := by decide +kernel
theorem dX4_freeWhatIsNotPointedTo_15 : decode cX4_freeWhatIsNotPointedTo 15 = .ok (.iconst 0, 1) := by decide +kernel
theorem dX4_freeWhatIsNotPointedTo_16 : decode cX4_freeWhatIsNotPointedTo 16 = .ok (.istore_n 2, 1) := by decide +kernel
theorem dX4_freeWhatIsNotPointedTo_17 : decode cX4_freeWhatIsNotPointedTo 17 = .ok (.iload_n 2, 1) := by decide +kernel
theorem dX4_freeWhatIsNotPointedTo_18 : decode cX4_freeWhatIsNotPointedTo 18 = .ok (.iconst 2, 1) := by decide +kernel
theorem dX4_freeWhatIsNotPointedTo_19 : decode cX4_freeWhatIsNotPointedTo 19 = .ok (.if_icmp .ge 25, 3) := by decide +kernel
theorem dX4_freeWhatIsNotPointedTo_22 : decode cX4_freeWhatIsNotPointedTo 22 = .ok (.aload_n 0, 1) := by decide +kernel
theorem dX4_freeWhatIsNotPointedTo_23 : decode cX4_freeWhatIsNotPointedTo 23 = .ok (.getfield 12, 3) := by decide +kernel
theorem dX4_freeWhatIsNotPointedTo_26 : decode cX4_freeWhatIsNotPointedTo 26 = .ok (.aload_n 0, 1) := by decide +kernel
theorem dX4_freeWhatIsNotPointedTo_27 : decode cX4_freeWhatIsNotPointedTo 27 = .ok (.getfield 19, 3) := by decide +kernel
theorem dX4_freeWhatIsNotPointedTo_30 : decode cX4_freeWhatIsNotPointedTo 30 = .ok (.iload_n 1, 1) := by decide +kernel
theorem dX4_freeWhatIsNotPointedTo_31 : decode cX4_freeWhatIsNotPointedTo 31 = .ok (.iload_n 2, 1) := by decide +kernel
theorem dX4_freeWhatIsNotPointedTo_32 : decode cX4_freeWhatIsNotPointedTo 32 = .ok (.invokevirtual 209, 3) := by decide +kernel
theorem dX4_freeWhatIsNotPointedTo_35 : decode cX4_freeWhatIsNotPointedTo 35 = .ok (.invokevirtual 291, 3) := by decide +kernel
theorem dX4_freeWhatIsNotPointedTo_38 : decode cX4_freeWhatIsNotPointedTo 38 = .ok (.iinc 2 1, 3) := by decide +kernel
theorem dX4_freeWhatIsNotPointedTo_41 : decode cX4_freeWhatIsNotPointedTo 41 = .ok (.goto (-24), 3) := by decide +kernel
theorem dX4_freeWhatIsNotPointedTo_44 : decode cX4_freeWhatIsNotPointedTo 44 = .ok (.iinc 1 1, 3) := by decide +kernel
theorem dX4_freeWhatIsNotPointedTo_47 : decode cX4_freeWhatIsNotPointedTo 47 = .ok (.goto (-38), 3) := by decide +kernel
theorem dX4_freeWhatIsNotPointedTo_50 : decode cX4_freeWhatIsNotPointedTo 50 = .ok (.return_, 1) := by decide +kernel
def b_X4_freeWhatIsNotPointedTo_17 (x1 : Int32) (rec : Int32 → Mem → Int32 × Mem) (v2 : Int32) (N : Mem) : Int32 × Mem :=
  if 2 ≤ v2 then (v2, N)
  else zlet (f_X0_use (f_X3_placeOf x1 v2 N) N) (fun N2 =>
  rec (v2 + 1) N2)
def l_X4_freeWhatIsNotPointedTo_17 (x1 : Int32) : Nat → Int32 → Mem → Int32 × Mem
  | 0, v2, N => (v2, N)
  | n + 1, v2, N => b_X4_freeWhatIsNotPointedTo_17 x1 (l_X4_freeWhatIsNotPointedTo_17 x1 n) v2 N
set_option maxRecDepth 100000 in
set_option maxHeartbeats 4000000 in
theorem kl_X4_freeWhatIsNotPointedTo_17 (q : ZQ) (x1 : Int32) {K : Int32 × Mem → ZR} (hx : ∀ e : Int32 × Mem, Zg (zgX q) mX4_freeWhatIsNotPointedTo 0 0 0 0 (K e) 44 [some (.inr 0), some (.inl x1), some (.inl e.1)] [] e.2) :
    ∀ (n : Nat) (v2 : Int32) (N : Mem), ((2 : Int32).toInt - (v2 : Int32).toInt).toNat < n → Zg (zgX q) mX4_freeWhatIsNotPointedTo 0 0 0 0 (zlet (l_X4_freeWhatIsNotPointedTo_17 x1 n v2 N) K) 17 [some (.inr 0), some (.inl x1), some (.inl v2)] [] N := by
  intro n
  induction n with
  | zero => intro v2 N hm; exact absurd hm (Nat.not_lt_zero _)
  | succ n ih =>
    intro v2 N hm
    show Zg _ _ _ _ _ _ (zlet (b_X4_freeWhatIsNotPointedTo_17 x1 (l_X4_freeWhatIsNotPointedTo_17 x1 n) v2 N) K) _ _ _ _
    unfold b_X4_freeWhatIsNotPointedTo_17
    refine zg_iload_n (x := v2) dX4_freeWhatIsNotPointedTo_17 rfl ?_
    refine zg_iconst (v := 2) dX4_freeWhatIsNotPointedTo_18 rfl ?_
    refine zg_icmpz (tgt := 44) dX4_freeWhatIsNotPointedTo_19 rfl rfl (fun c19 => ?_) (fun c19 => ?_)
    · refine zg_st (pc' := 44) (L' := [some (.inr 0), some (.inl x1), some (.inl v2)]) (S' := []) (M' := N) rfl rfl rfl rfl ?_
      refine zg_drop (L' := [some (.inr 0), some (.inl x1), some (.inl v2)]) ⟨rfl, rfl, rfl, trivial⟩ ?_
      exact hx (v2, N)
    · refine zg_st (pc' := 22) (L' := [some (.inr 0), some (.inl x1), some (.inl v2)]) (S' := []) (M' := N) rfl rfl rfl rfl ?_
      refine zg_aload_n (x := 0) dX4_freeWhatIsNotPointedTo_22 rfl ?_
      refine zg_getf (v := .inr 1) dX4_freeWhatIsNotPointedTo_23 zf_X4_12 rfl rfl rfl ?_
      refine zg_aload_n (x := 0) dX4_freeWhatIsNotPointedTo_26 rfl ?_
      refine zg_getf (v := .inr 2) dX4_freeWhatIsNotPointedTo_27 zf_X4_19 rfl rfl rfl ?_
      refine zg_iload_n (x := x1) dX4_freeWhatIsNotPointedTo_30 rfl ?_
      refine zg_iload_n (x := v2) dX4_freeWhatIsNotPointedTo_31 rfl ?_
      refine zg_cV1 (As := [.inl x1, .inl v2]) (S := [.inr 1]) (v := (f_X3_placeOf x1 v2 N)) dX4_freeWhatIsNotPointedTo_32 zk_X4_209 (k_X3_placeOf q x1 v2 N) rfl rfl ⟨by decide, by decide⟩ ⟨by decide, by decide⟩ rfl (Nat.le_of_ble_eq_true rfl) ?_
      refine zg_st (pc' := 35) (L' := [some (.inr 0), some (.inl x1), some (.inl v2)]) (S' := [.inl (f_X3_placeOf x1 v2 N), .inr 1]) (M' := N) rfl rfl rfl rfl ?_
      refine zg_cVV (As := [.inl (f_X3_placeOf x1 v2 N)]) (S := []) dX4_freeWhatIsNotPointedTo_35 zk_X4_291 (k_X0_use q (f_X3_placeOf x1 v2 N) N) rfl rfl ⟨by decide, by decide⟩ ⟨by decide, by decide⟩ rfl (Nat.le_of_ble_eq_true rfl) (fun N2 e_N2 => ?_)
      try dsimp only
      refine zg_st (pc' := 38) (L' := [some (.inr 0), some (.inl x1), some (.inl v2)]) (S' := []) (M' := N2) rfl rfl rfl rfl ?_
      refine zg_iinc (v := (v2 + 1)) dX4_freeWhatIsNotPointedTo_38 rfl (by decide) rfl ?_
      refine zg_st (pc' := 41) (L' := [some (.inr 0), some (.inl x1), some (.inl (v2 + 1))]) (S' := []) (M' := N2) rfl rfl rfl rfl ?_
      refine zg_goto (tgt := 17) dX4_freeWhatIsNotPointedTo_41 rfl ?_
      refine zg_st (pc' := 17) (L' := [some (.inr 0), some (.inl x1), some (.inl (v2 + 1))]) (S' := []) (M' := N2) rfl rfl rfl rfl ?_
      refine zg_drop (L' := [some (.inr 0), some (.inl x1), some (.inl (v2 + 1))]) ⟨rfl, rfl, rfl, trivial⟩ ?_
      exact ih (v2 + 1) N2 (z_up c19 hm)
def b_X4_freeWhatIsNotPointedTo_9 (rec : Int32 → Mem → Int32 × Mem) (v1 : Int32) (N : Mem) : Int32 × Mem :=
  if 53 ≤ v1 then (v1, N)
  else zlet (l_X4_freeWhatIsNotPointedTo_17 v1 3 0 N) (fun s3 =>
  rec (v1 + 1) s3.2)
def l_X4_freeWhatIsNotPointedTo_9 : Nat → Int32 → Mem → Int32 × Mem
  | 0, v1, N => (v1, N)
  | n + 1, v1, N => b_X4_freeWhatIsNotPointedTo_9 (l_X4_freeWhatIsNotPointedTo_9 n) v1 N
set_option maxRecDepth 100000 in
set_option maxHeartbeats 4000000 in
theorem kl_X4_freeWhatIsNotPointedTo_9 (q : ZQ) {K : Int32 × Mem → ZR} (hx : ∀ e : Int32 × Mem, Zg (zgX q) mX4_freeWhatIsNotPointedTo 0 0 0 0 (K e) 50 [some (.inr 0), some (.inl e.1), none] [] e.2) :
    ∀ (n : Nat) (v1 : Int32) (N : Mem), ((53 : Int32).toInt - (v1 : Int32).toInt).toNat < n → Zg (zgX q) mX4_freeWhatIsNotPointedTo 0 0 0 0 (zlet (l_X4_freeWhatIsNotPointedTo_9 n v1 N) K) 9 [some (.inr 0), some (.inl v1), none] [] N := by
  intro n
  induction n with
  | zero => intro v1 N hm; exact absurd hm (Nat.not_lt_zero _)
  | succ n ih =>
    intro v1 N hm
    show Zg _ _ _ _ _ _ (zlet (b_X4_freeWhatIsNotPointedTo_9 (l_X4_freeWhatIsNotPointedTo_9 n) v1 N) K) _ _ _ _
    unfold b_X4_freeWhatIsNotPointedTo_9
    refine zg_iload_n (x := v1) dX4_freeWhatIsNotPointedTo_9 rfl ?_
    refine zg_bipush (v := 53) dX4_freeWhatIsNotPointedTo_10 rfl ?_
    refine zg_icmpz (tgt := 50) dX4_freeWhatIsNotPointedTo_12 rfl rfl (fun c12 => ?_) (fun c12 => ?_)
    · refine zg_st (pc' := 50) (L' := [some (.inr 0), some (.inl v1), none]) (S' := []) (M' := N) rfl rfl rfl rfl ?_
      refine zg_drop (L' := [some (.inr 0), some (.inl v1), none]) ⟨rfl, rfl, trivial⟩ ?_
      exact hx (v1, N)
    · refine zg_st (pc' := 15) (L' := [some (.inr 0), some (.inl v1), none]) (S' := []) (M' := N) rfl rfl rfl rfl ?_
      refine zg_iconst (v := 0) dX4_freeWhatIsNotPointedTo_15 rfl ?_
      refine zg_istore_n dX4_freeWhatIsNotPointedTo_16 (by decide) ?_
      refine zg_st (pc' := 17) (L' := [some (.inr 0), some (.inl v1), some (.inl 0)]) (S' := []) (M' := N) rfl rfl rfl rfl ?_
      refine zg_asc ?_
      refine zg_drop (L' := [some (.inr 0), some (.inl v1), some (.inl 0)]) ⟨rfl, rfl, rfl, trivial⟩ ?_
      refine kl_X4_freeWhatIsNotPointedTo_17 q v1  (fun s3 => ?_) 3 0 N (by decide)
      try dsimp only [Sum.elim_inr]
      refine zg_st (pc' := 44) (L' := [some (.inr 0), some (.inl v1), some (.inl s3.1)]) (S' := []) (M' := s3.2) rfl rfl rfl rfl ?_
      refine zg_iinc (v := (v1 + 1)) dX4_freeWhatIsNotPointedTo_44 rfl (by decide) rfl ?_
      refine zg_st (pc' := 47) (L' := [some (.inr 0), some (.inl (v1 + 1)), some (.inl s3.1)]) (S' := []) (M' := s3.2) rfl rfl rfl rfl ?_
      refine zg_goto (tgt := 9) dX4_freeWhatIsNotPointedTo_47 rfl ?_
      refine zg_st (pc' := 9) (L' := [some (.inr 0), some (.inl (v1 + 1)), some (.inl s3.1)]) (S' := []) (M' := s3.2) rfl rfl rfl rfl ?_
      refine zg_drop (L' := [some (.inr 0), some (.inl (v1 + 1)), none]) ⟨rfl, rfl, trivial⟩ ?_
      exact ih (v1 + 1) s3.2 (z_up c12 hm)
def f_X4_freeWhatIsNotPointedTo (M : Mem) : Mem :=
  zlet (f_X0_freeAll M) (fun N1 =>
  zlet (l_X4_freeWhatIsNotPointedTo_9 54 0 N1) (fun s4 =>
    s4.2))
set_option maxRecDepth 100000 in
set_option maxHeartbeats 4000000 in
theorem k_X4_freeWhatIsNotPointedTo (q : ZQ) (M : Mem) : Zc (zgX q) mX4_freeWhatIsNotPointedTo 0 0 [.inr 0] M (wV (f_X4_freeWhatIsNotPointedTo M)) := by
  refine Zc.of (by decide) zi_X4_freeWhatIsNotPointedTo.1 (Nat.le_of_ble_eq_true rfl) rfl ?_
  show Zg _ _ _ _ _ _ (zlet (f_X4_freeWhatIsNotPointedTo M) wV) _ _ _ _
  unfold f_X4_freeWhatIsNotPointedTo
  refine zg_aload_n (x := 0) dX4_freeWhatIsNotPointedTo_0 rfl ?_
  refine zg_getf (v := .inr 1) dX4_freeWhatIsNotPointedTo_1 zf_X4_12 rfl rfl rfl ?_
  refine zg_cVV (As := []) (S := []) dX4_freeWhatIsNotPointedTo_4 zk_X4_288 (k_X0_freeAll q M) rfl rfl ⟨by decide, by decide⟩ ⟨by decide, by decide⟩ rfl (Nat.le_of_ble_eq_true rfl) (fun N1 e_N1 => ?_)
  try dsimp only
  refine zg_st (pc' := 7) (L' := [some (.inr 0), none, none]) (S' := []) (M' := N1) rfl rfl rfl rfl ?_
  refine zg_iconst (v := 0) dX4_freeWhatIsNotPointedTo_7 rfl ?_
  refine zg_istore_n dX4_freeWhatIsNotPointedTo_8 (by decide) ?_
  refine zg_st (pc' := 9) (L' := [some (.inr 0), some (.inl 0), none]) (S' := []) (M' := N1) rfl rfl rfl rfl ?_
  refine zg_asc ?_
  refine zg_drop (L' := [some (.inr 0), some (.inl 0), none]) ⟨rfl, rfl, trivial⟩ ?_
  refine kl_X4_freeWhatIsNotPointedTo_9 q  (fun s4 => ?_) 54 0 N1 (by decide)
  try dsimp only [Sum.elim_inr]
  refine zg_st (pc' := 50) (L' := [some (.inr 0), some (.inl s4.1), none]) (S' := []) (M' := s4.2) rfl rfl rfl rfl ?_
  exact zg_vret dX4_freeWhatIsNotPointedTo_50 rfl ⟨by decide, by decide⟩ rfl
theorem dX4_copyToSide_0 : decode cX4_copyToSide 0 = .ok (.iconst 0, 1) := by decide +kernel
theorem dX4_copyToSide_1 : decode cX4_copyToSide 1 = .ok (.istore 4, 2) := by decide +kernel
theorem dX4_copyToSide_3 : decode cX4_copyToSide 3 = .ok (.iconst 0, 1) := by decide +kernel
theorem dX4_copyToSide_4 : decode cX4_copyToSide 4 = .ok (.istore 5, 2) := by decide +kernel
theorem dX4_copyToSide_6 : decode cX4_copyToSide 6 = .ok (.iload 5, 2) := by decide +kernel
theorem dX4_copyToSide_8 : decode cX4_copyToSide 8 = .ok (.iconst 2, 1) := by decide +kernel
theorem dX4_copyToSide_9 : decode cX4_copyToSide 9 = .ok (.if_icmp .ge 62, 3) := by decide +kernel
theorem dX4_copyToSide_12 : decode cX4_copyToSide 12 = .ok (.aload_n 0, 1) := by decide +kernel
theorem dX4_copyToSide_13 : decode cX4_copyToSide 13 = .ok (.getfield 19, 3) := by decide +kernel
theorem dX4_copyToSide_16 : decode cX4_copyToSide 16 = .ok (.iload_n 1, 1) := by decide +kernel
theorem dX4_copyToSide_17 : decode cX4_copyToSide 17 = .ok (.iload 5, 2) := by decide +kernel
theorem dX4_copyToSide_19 : decode cX4_copyToSide 19 = .ok (.invokevirtual 209, 3) := by decide +kernel
theorem dX4_copyToSide_22 : decode cX4_copyToSide 22 = .ok (.istore 6, 2) := by decide +kernel
theorem dX4_copyToSide_24 : decode cX4_copyToSide 24 = .ok (.iload 6, 2) := by decide +kernel
theorem dX4_copyToSide_26 : decode cX4_copyToSide 26 = .ok (.iconst (-1), 1) := by decide +kernel
theorem dX4_copyToSide_27 : decode cX4_copyToSide 27 = .ok (.if_icmp .eq 38, 3) := by decide +kernel
theorem dX4_copyToSide_30 : decode cX4_copyToSide 30 = .ok (.iload 6, 2) := by decide +kernel
theorem dX4_copyToSide_32 : decode cX4_copyToSide 32 = .ok (.invokestatic 228, 3) := by decide +kernel
theorem dX4_copyToSide_35 : decode cX4_copyToSide 35 = .ok (.iload_n 2, 1) := by decide +kernel
theorem dX4_copyToSide_36 : decode cX4_copyToSide 36 = .ok (.if_icmp .ne 29, 3) := by decide +kernel
theorem dX4_copyToSide_39 : decode cX4_copyToSide 39 = .ok (.aload_n 0, 1) := by decide +kernel
theorem dX4_copyToSide_40 : decode cX4_copyToSide 40 = .ok (.getfield 12, 3) := by decide +kernel
theorem dX4_copyToSide_43 : decode cX4_copyToSide 43 = .ok (.iload 6, 2) := by decide +kernel
theorem dX4_copyToSide_45 : decode cX4_copyToSide 45 = .ok (.iload_n 3, 1) := by decide +kernel
theorem dX4_copyToSide_46 : decode cX4_copyToSide 46 = .ok (.aload_n 0, 1) := by decide +kernel
theorem dX4_copyToSide_47 : decode cX4_copyToSide 47 = .ok (.iload_n 1, 1) := by decide +kernel
theorem dX4_copyToSide_48 : decode cX4_copyToSide 48 = .ok (.invokevirtual 194, 3) := by decide +kernel
theorem dX4_copyToSide_51 : decode cX4_copyToSide 51 = .ok (.ifCond .ne 7, 3) := by decide +kernel
theorem dX4_copyToSide_54 : decode cX4_copyToSide 54 = .ok (.iconst 1, 1) := by decide +kernel
theorem dX4_copyToSide_55 : decode cX4_copyToSide 55 = .ok (.goto 4, 3) := by decide +kernel
theorem dX4_copyToSide_58 : decode cX4_copyToSide 58 = .ok (.iconst 0, 1) := by decide +kernel
theorem dX4_copyToSide_59 : decode cX4_copyToSide 59 = .ok (.invokevirtual 178, 3) := by decide +kernel
theorem dX4_copyToSide_62 : decode cX4_copyToSide 62 = .ok (.iinc 4 1, 3) := by decide +kernel
theorem dX4_copyToSide_65 : decode cX4_copyToSide 65 = .ok (.iinc 5 1, 3) := by decide +kernel
theorem dX4_copyToSide_68 : decode cX4_copyToSide 68 = .ok (.goto (-62), 3) := by decide +kernel
theorem dX4_copyToSide_71 : decode cX4_copyToSide 71 = .ok (.iload 4, 2) := by decide +kernel
theorem dX4_copyToSide_73 : decode cX4_copyToSide 73 = .ok (.ireturn, 1) := by decide +kernel
def b_X4_copyToSide_6 (x1 : Int32) (x2 : Int32) (x3 : Int32) (rec : Int32 → Int32 → Mem → Int32 × Int32 × Mem) (v4 : Int32) (v5 : Int32) (N : Mem) : Int32 × Int32 × Mem :=
  if 2 ≤ v5 then (v4, v5, N)
  else if (f_X3_placeOf x1 v5 N) = (-1) then rec v4 (v5 + 1) N
  else if ¬ (f_X4_mirrorOf (f_X3_placeOf x1 v5 N)) = x2 then rec v4 (v5 + 1) N
  else if (f_X4_canFetch x1 N) then zlet (f_X0_mark (f_X3_placeOf x1 v5 N) x3 false N) (fun N1 =>
    rec (v4 + 1) (v5 + 1) N1)
  else zlet (f_X0_mark (f_X3_placeOf x1 v5 N) x3 true N) (fun N2 =>
  rec (v4 + 1) (v5 + 1) N2)
def l_X4_copyToSide_6 (x1 : Int32) (x2 : Int32) (x3 : Int32) : Nat → Int32 → Int32 → Mem → Int32 × Int32 × Mem
  | 0, v4, v5, N => (v4, v5, N)
  | n + 1, v4, v5, N => b_X4_copyToSide_6 x1 x2 x3 (l_X4_copyToSide_6 x1 x2 x3 n) v4 v5 N
set_option maxRecDepth 100000 in
set_option maxHeartbeats 4000000 in
theorem kl_X4_copyToSide_6 (q : ZQ) (x1 : Int32) (x2 : Int32) (x3 : Int32) {K : Int32 × Int32 × Mem → ZR} (hx : ∀ e : Int32 × Int32 × Mem, Zg (zgX q) mX4_copyToSide 0 0 0 0 (K e) 71 [some (.inr 0), some (.inl x1), some (.inl x2), some (.inl x3), some (.inl e.1), some (.inl e.2.1), none] [] e.2.2) :
    ∀ (n : Nat) (v4 : Int32) (v5 : Int32) (N : Mem), ((2 : Int32).toInt - (v5 : Int32).toInt).toNat < n → Zg (zgX q) mX4_copyToSide 0 0 0 0 (zlet (l_X4_copyToSide_6 x1 x2 x3 n v4 v5 N) K) 6 [some (.inr 0), some (.inl x1), some (.inl x2), some (.inl x3), some (.inl v4), some (.inl v5), none] [] N := by
  intro n
  induction n with
  | zero => intro v4 v5 N hm; exact absurd hm (Nat.not_lt_zero _)
  | succ n ih =>
    intro v4 v5 N hm
    show Zg _ _ _ _ _ _ (zlet (b_X4_copyToSide_6 x1 x2 x3 (l_X4_copyToSide_6 x1 x2 x3 n) v4 v5 N) K) _ _ _ _
    unfold b_X4_copyToSide_6
    refine zg_iload (x := v5) dX4_copyToSide_6 rfl ?_
    refine zg_iconst (v := 2) dX4_copyToSide_8 rfl ?_
    refine zg_icmpz (tgt := 71) dX4_copyToSide_9 rfl rfl (fun c9 => ?_) (fun c9 => ?_)
    · refine zg_st (pc' := 71) (L' := [some (.inr 0), some (.inl x1), some (.inl x2), some (.inl x3), some (.inl v4), some (.inl v5), none]) (S' := []) (M' := N) rfl rfl rfl rfl ?_
      refine zg_drop (L' := [some (.inr 0), some (.inl x1), some (.inl x2), some (.inl x3), some (.inl v4), some (.inl v5), none]) ⟨rfl, rfl, rfl, rfl, rfl, rfl, trivial⟩ ?_
      exact hx (v4, v5, N)
    · refine zg_st (pc' := 12) (L' := [some (.inr 0), some (.inl x1), some (.inl x2), some (.inl x3), some (.inl v4), some (.inl v5), none]) (S' := []) (M' := N) rfl rfl rfl rfl ?_
      refine zg_aload_n (x := 0) dX4_copyToSide_12 rfl ?_
      refine zg_getf (v := .inr 2) dX4_copyToSide_13 zf_X4_19 rfl rfl rfl ?_
      refine zg_iload_n (x := x1) dX4_copyToSide_16 rfl ?_
      refine zg_iload (x := v5) dX4_copyToSide_17 rfl ?_
      refine zg_cV1 (As := [.inl x1, .inl v5]) (S := []) (v := (f_X3_placeOf x1 v5 N)) dX4_copyToSide_19 zk_X4_209 (k_X3_placeOf q x1 v5 N) rfl rfl ⟨by decide, by decide⟩ ⟨by decide, by decide⟩ rfl (Nat.le_of_ble_eq_true rfl) ?_
      refine zg_st (pc' := 22) (L' := [some (.inr 0), some (.inl x1), some (.inl x2), some (.inl x3), some (.inl v4), some (.inl v5), none]) (S' := [.inl (f_X3_placeOf x1 v5 N)]) (M' := N) rfl rfl rfl rfl ?_
      refine zg_istore dX4_copyToSide_22 (by decide) ?_
      refine zg_st (pc' := 24) (L' := [some (.inr 0), some (.inl x1), some (.inl x2), some (.inl x3), some (.inl v4), some (.inl v5), some (.inl (f_X3_placeOf x1 v5 N))]) (S' := []) (M' := N) rfl rfl rfl rfl ?_
      refine zg_iload (x := (f_X3_placeOf x1 v5 N)) dX4_copyToSide_24 rfl ?_
      refine zg_iconst (v := (-1)) dX4_copyToSide_26 rfl ?_
      refine zg_icmpz (tgt := 65) dX4_copyToSide_27 rfl rfl (fun c27 => ?_) (fun c27 => ?_)
      · refine zg_st (pc' := 65) (L' := [some (.inr 0), some (.inl x1), some (.inl x2), some (.inl x3), some (.inl v4), some (.inl v5), some (.inl (f_X3_placeOf x1 v5 N))]) (S' := []) (M' := N) rfl rfl rfl rfl ?_
        refine zg_iinc (v := (v5 + 1)) dX4_copyToSide_65 rfl (by decide) rfl ?_
        refine zg_st (pc' := 68) (L' := [some (.inr 0), some (.inl x1), some (.inl x2), some (.inl x3), some (.inl v4), some (.inl (v5 + 1)), some (.inl (f_X3_placeOf x1 v5 N))]) (S' := []) (M' := N) rfl rfl rfl rfl ?_
        refine zg_goto (tgt := 6) dX4_copyToSide_68 rfl ?_
        refine zg_st (pc' := 6) (L' := [some (.inr 0), some (.inl x1), some (.inl x2), some (.inl x3), some (.inl v4), some (.inl (v5 + 1)), some (.inl (f_X3_placeOf x1 v5 N))]) (S' := []) (M' := N) rfl rfl rfl rfl ?_
        refine zg_drop (L' := [some (.inr 0), some (.inl x1), some (.inl x2), some (.inl x3), some (.inl v4), some (.inl (v5 + 1)), none]) ⟨rfl, rfl, rfl, rfl, rfl, rfl, trivial⟩ ?_
        exact ih v4 (v5 + 1) N (z_up c9 hm)
      · refine zg_st (pc' := 30) (L' := [some (.inr 0), some (.inl x1), some (.inl x2), some (.inl x3), some (.inl v4), some (.inl v5), some (.inl (f_X3_placeOf x1 v5 N))]) (S' := []) (M' := N) rfl rfl rfl rfl ?_
        refine zg_iload (x := (f_X3_placeOf x1 v5 N)) dX4_copyToSide_30 rfl ?_
        refine zg_cS1 (As := [.inl (f_X3_placeOf x1 v5 N)]) (S := []) (v := (f_X4_mirrorOf (f_X3_placeOf x1 v5 N))) dX4_copyToSide_32 zk_X4_228 (k_X4_mirrorOf q (f_X3_placeOf x1 v5 N) N) rfl ⟨by decide, by decide⟩ ⟨by decide, by decide⟩ rfl (Nat.le_of_ble_eq_true rfl) ?_
        refine zg_st (pc' := 35) (L' := [some (.inr 0), some (.inl x1), some (.inl x2), some (.inl x3), some (.inl v4), some (.inl v5), some (.inl (f_X3_placeOf x1 v5 N))]) (S' := [.inl (f_X4_mirrorOf (f_X3_placeOf x1 v5 N))]) (M' := N) rfl rfl rfl rfl ?_
        refine zg_iload_n (x := x2) dX4_copyToSide_35 rfl ?_
        refine zg_icmpz (tgt := 65) dX4_copyToSide_36 rfl rfl (fun c36 => ?_) (fun c36 => ?_)
        · refine zg_st (pc' := 65) (L' := [some (.inr 0), some (.inl x1), some (.inl x2), some (.inl x3), some (.inl v4), some (.inl v5), some (.inl (f_X3_placeOf x1 v5 N))]) (S' := []) (M' := N) rfl rfl rfl rfl ?_
          refine zg_iinc (v := (v5 + 1)) dX4_copyToSide_65 rfl (by decide) rfl ?_
          refine zg_st (pc' := 68) (L' := [some (.inr 0), some (.inl x1), some (.inl x2), some (.inl x3), some (.inl v4), some (.inl (v5 + 1)), some (.inl (f_X3_placeOf x1 v5 N))]) (S' := []) (M' := N) rfl rfl rfl rfl ?_
          refine zg_goto (tgt := 6) dX4_copyToSide_68 rfl ?_
          refine zg_st (pc' := 6) (L' := [some (.inr 0), some (.inl x1), some (.inl x2), some (.inl x3), some (.inl v4), some (.inl (v5 + 1)), some (.inl (f_X3_placeOf x1 v5 N))]) (S' := []) (M' := N) rfl rfl rfl rfl ?_
          refine zg_drop (L' := [some (.inr 0), some (.inl x1), some (.inl x2), some (.inl x3), some (.inl v4), some (.inl (v5 + 1)), none]) ⟨rfl, rfl, rfl, rfl, rfl, rfl, trivial⟩ ?_
          exact ih v4 (v5 + 1) N (z_up c9 hm)
        · refine zg_st (pc' := 39) (L' := [some (.inr 0), some (.inl x1), some (.inl x2), some (.inl x3), some (.inl v4), some (.inl v5), some (.inl (f_X3_placeOf x1 v5 N))]) (S' := []) (M' := N) rfl rfl rfl rfl ?_
          refine zg_aload_n (x := 0) dX4_copyToSide_39 rfl ?_
          refine zg_getf (v := .inr 1) dX4_copyToSide_40 zf_X4_12 rfl rfl rfl ?_
          refine zg_iload (x := (f_X3_placeOf x1 v5 N)) dX4_copyToSide_43 rfl ?_
          refine zg_iload_n (x := x3) dX4_copyToSide_45 rfl ?_
          refine zg_aload_n (x := 0) dX4_copyToSide_46 rfl ?_
          refine zg_iload_n (x := x1) dX4_copyToSide_47 rfl ?_
          refine zg_cV1 (As := [.inl x1]) (S := [.inl x3, .inl (f_X3_placeOf x1 v5 N), .inr 1]) (v := bI ((f_X4_canFetch x1 N))) dX4_copyToSide_48 zk_X4_194 (k_X4_canFetch q x1 N) rfl rfl ⟨by decide, by decide⟩ ⟨by decide, by decide⟩ rfl (Nat.le_of_ble_eq_true rfl) ?_
          refine zg_st (pc' := 51) (L' := [some (.inr 0), some (.inl x1), some (.inl x2), some (.inl x3), some (.inl v4), some (.inl v5), some (.inl (f_X3_placeOf x1 v5 N))]) (S' := [.inl (bI ((f_X4_canFetch x1 N))), .inl x3, .inl (f_X3_placeOf x1 v5 N), .inr 1]) (M' := N) rfl rfl rfl rfl ?_
          refine zg_ifbn (tgt := 58) dX4_copyToSide_51 rfl (fun c51 => ?_) (fun c51 => ?_)
          · refine zg_st (pc' := 58) (L' := [some (.inr 0), some (.inl x1), some (.inl x2), some (.inl x3), some (.inl v4), some (.inl v5), some (.inl (f_X3_placeOf x1 v5 N))]) (S' := [.inl x3, .inl (f_X3_placeOf x1 v5 N), .inr 1]) (M' := N) rfl rfl rfl rfl ?_
            refine zg_iconst (v := 0) dX4_copyToSide_58 rfl ?_
            refine zg_cVV (As := [.inl (f_X3_placeOf x1 v5 N), .inl x3, .inl 0]) (S := []) dX4_copyToSide_59 zk_X4_178 (k_X0_mark q (f_X3_placeOf x1 v5 N) x3 false N) rfl rfl ⟨by decide, by decide⟩ ⟨by decide, by decide⟩ rfl (Nat.le_of_ble_eq_true rfl) (fun N1 e_N1 => ?_)
            try dsimp only
            refine zg_st (pc' := 62) (L' := [some (.inr 0), some (.inl x1), some (.inl x2), some (.inl x3), some (.inl v4), some (.inl v5), some (.inl (f_X3_placeOf x1 v5 N))]) (S' := []) (M' := N1) rfl rfl rfl rfl ?_
            refine zg_iinc (v := (v4 + 1)) dX4_copyToSide_62 rfl (by decide) rfl ?_
            refine zg_st (pc' := 65) (L' := [some (.inr 0), some (.inl x1), some (.inl x2), some (.inl x3), some (.inl (v4 + 1)), some (.inl v5), some (.inl (f_X3_placeOf x1 v5 N))]) (S' := []) (M' := N1) rfl rfl rfl rfl ?_
            refine zg_iinc (v := (v5 + 1)) dX4_copyToSide_65 rfl (by decide) rfl ?_
            refine zg_st (pc' := 68) (L' := [some (.inr 0), some (.inl x1), some (.inl x2), some (.inl x3), some (.inl (v4 + 1)), some (.inl (v5 + 1)), some (.inl (f_X3_placeOf x1 v5 N))]) (S' := []) (M' := N1) rfl rfl rfl rfl ?_
            refine zg_goto (tgt := 6) dX4_copyToSide_68 rfl ?_
            refine zg_st (pc' := 6) (L' := [some (.inr 0), some (.inl x1), some (.inl x2), some (.inl x3), some (.inl (v4 + 1)), some (.inl (v5 + 1)), some (.inl (f_X3_placeOf x1 v5 N))]) (S' := []) (M' := N1) rfl rfl rfl rfl ?_
            refine zg_drop (L' := [some (.inr 0), some (.inl x1), some (.inl x2), some (.inl x3), some (.inl (v4 + 1)), some (.inl (v5 + 1)), none]) ⟨rfl, rfl, rfl, rfl, rfl, rfl, trivial⟩ ?_
            exact ih (v4 + 1) (v5 + 1) N1 (z_up c9 hm)
          · refine zg_st (pc' := 54) (L' := [some (.inr 0), some (.inl x1), some (.inl x2), some (.inl x3), some (.inl v4), some (.inl v5), some (.inl (f_X3_placeOf x1 v5 N))]) (S' := [.inl x3, .inl (f_X3_placeOf x1 v5 N), .inr 1]) (M' := N) rfl rfl rfl rfl ?_
            refine zg_iconst (v := 1) dX4_copyToSide_54 rfl ?_
            refine zg_goto (tgt := 59) dX4_copyToSide_55 rfl ?_
            refine zg_st (pc' := 59) (L' := [some (.inr 0), some (.inl x1), some (.inl x2), some (.inl x3), some (.inl v4), some (.inl v5), some (.inl (f_X3_placeOf x1 v5 N))]) (S' := [.inl 1, .inl x3, .inl (f_X3_placeOf x1 v5 N), .inr 1]) (M' := N) rfl rfl rfl rfl ?_
            refine zg_cVV (As := [.inl (f_X3_placeOf x1 v5 N), .inl x3, .inl 1]) (S := []) dX4_copyToSide_59 zk_X4_178 (k_X0_mark q (f_X3_placeOf x1 v5 N) x3 true N) rfl rfl ⟨by decide, by decide⟩ ⟨by decide, by decide⟩ rfl (Nat.le_of_ble_eq_true rfl) (fun N2 e_N2 => ?_)
            try dsimp only
            refine zg_st (pc' := 62) (L' := [some (.inr 0), some (.inl x1), some (.inl x2), some (.inl x3), some (.inl v4), some (.inl v5), some (.inl (f_X3_placeOf x1 v5 N))]) (S' := []) (M' := N2) rfl rfl rfl rfl ?_
            refine zg_iinc (v := (v4 + 1)) dX4_copyToSide_62 rfl (by decide) rfl ?_
            refine zg_st (pc' := 65) (L' := [some (.inr 0), some (.inl x1), some (.inl x2), some (.inl x3), some (.inl (v4 + 1)), some (.inl v5), some (.inl (f_X3_placeOf x1 v5 N))]) (S' := []) (M' := N2) rfl rfl rfl rfl ?_
            refine zg_iinc (v := (v5 + 1)) dX4_copyToSide_65 rfl (by decide) rfl ?_
            refine zg_st (pc' := 68) (L' := [some (.inr 0), some (.inl x1), some (.inl x2), some (.inl x3), some (.inl (v4 + 1)), some (.inl (v5 + 1)), some (.inl (f_X3_placeOf x1 v5 N))]) (S' := []) (M' := N2) rfl rfl rfl rfl ?_
            refine zg_goto (tgt := 6) dX4_copyToSide_68 rfl ?_
            refine zg_st (pc' := 6) (L' := [some (.inr 0), some (.inl x1), some (.inl x2), some (.inl x3), some (.inl (v4 + 1)), some (.inl (v5 + 1)), some (.inl (f_X3_placeOf x1 v5 N))]) (S' := []) (M' := N2) rfl rfl rfl rfl ?_
            refine zg_drop (L' := [some (.inr 0), some (.inl x1), some (.inl x2), some (.inl x3), some (.inl (v4 + 1)), some (.inl (v5 + 1)), none]) ⟨rfl, rfl, rfl, rfl, rfl, rfl, trivial⟩ ?_
            exact ih (v4 + 1) (v5 + 1) N2 (z_up c9 hm)
def f_X4_copyToSide (p1 : Int32) (p2 : Int32) (p3 : Int32) (M : Mem) : (Int32 × Mem) :=
  zlet (l_X4_copyToSide_6 p1 p2 p3 3 0 0 M) (fun s3 =>
  (s3.1, s3.2.2))
set_option maxRecDepth 100000 in
set_option maxHeartbeats 4000000 in
theorem k_X4_copyToSide (q : ZQ) (p1 : Int32) (p2 : Int32) (p3 : Int32) (M : Mem) : Zc (zgX q) mX4_copyToSide 0 0 [.inr 0, .inl p1, .inl p2, .inl p3] M (wIM (f_X4_copyToSide p1 p2 p3 M)) := by
  refine Zc.of (by decide) zi_X4_copyToSide.1 (Nat.le_of_ble_eq_true rfl) rfl ?_
  show Zg _ _ _ _ _ _ (zlet (f_X4_copyToSide p1 p2 p3 M) wIM) _ _ _ _
  unfold f_X4_copyToSide
  refine zg_iconst (v := 0) dX4_copyToSide_0 rfl ?_
  refine zg_istore dX4_copyToSide_1 (by decide) ?_
  refine zg_st (pc' := 3) (L' := [some (.inr 0), some (.inl p1), some (.inl p2), some (.inl p3), some (.inl 0), none, none]) (S' := []) (M' := M) rfl rfl rfl rfl ?_
  refine zg_iconst (v := 0) dX4_copyToSide_3 rfl ?_
  refine zg_istore dX4_copyToSide_4 (by decide) ?_
  refine zg_st (pc' := 6) (L' := [some (.inr 0), some (.inl p1), some (.inl p2), some (.inl p3), some (.inl 0), some (.inl 0), none]) (S' := []) (M' := M) rfl rfl rfl rfl ?_
  refine zg_asc ?_
  refine zg_drop (L' := [some (.inr 0), some (.inl p1), some (.inl p2), some (.inl p3), some (.inl 0), some (.inl 0), none]) ⟨rfl, rfl, rfl, rfl, rfl, rfl, trivial⟩ ?_
  refine kl_X4_copyToSide_6 q p1 p2 p3  (fun s3 => ?_) 3 0 0 M (by decide)
  try dsimp only [Sum.elim_inr]
  refine zg_st (pc' := 71) (L' := [some (.inr 0), some (.inl p1), some (.inl p2), some (.inl p3), some (.inl s3.1), some (.inl s3.2.1), none]) (S' := []) (M' := s3.2.2) rfl rfl rfl rfl ?_
  refine zg_iload (x := s3.1) dX4_copyToSide_71 rfl ?_
  exact zg_iret dX4_copyToSide_73 rfl rfl ⟨by decide, by decide⟩ rfl
theorem dX4_resilverFile_0 : decode cX4_resilverFile 0 = .ok (.aload_n 0, 1) := by decide +kernel
theorem dX4_resilverFile_1 : decode cX4_resilverFile 1 = .ok (.getfield 12, 3) := by decide +kernel
theorem dX4_resilverFile_4 : decode cX4_resilverFile 4 = .ok (.iload_n 2, 1) := by decide +kernel
theorem dX4_resilverFile_5 : decode cX4_resilverFile 5 = .ok (.iload_n 3, 1) := by decide +kernel
theorem dX4_resilverFile_6 : decode cX4_resilverFile 6 = .ok (.invokevirtual 294, 3) := by decide +kernel
theorem dX4_resilverFile_9 : decode cX4_resilverFile 9 = .ok (.istore 4, 2) := by decide +kernel
theorem dX4_resilverFile_11 : decode cX4_resilverFile 11 = .ok (.aload_n 0, 1) := by decide +kernel
theorem dX4_resilverFile_12 : decode cX4_resilverFile 12 = .ok (.iload_n 1, 1) := by decide +kernel
theorem dX4_resilverFile_13 : decode cX4_resilverFile 13 = .ok (.invokestatic 93, 3) := by decide +kernel
theorem dX4_resilverFile_16 : decode cX4_resilverFile 16 = .ok (.iload_n 2, 1) := by decide +kernel
theorem dX4_resilverFile_17 : decode cX4_resilverFile 17 = .ok (.iload_n 3, 1) := by decide +kernel
theorem dX4_resilverFile_18 : decode cX4_resilverFile 18 = .ok (.invokevirtual 297, 3) := by decide +kernel
theorem dX4_resilverFile_21 : decode cX4_resilverFile 21 = .ok (.istore 5, 2) := by decide +kernel
theorem dX4_resilverFile_23 : decode cX4_resilverFile 23 = .ok (.iconst 0, 1) := by decide +kernel
theorem dX4_resilverFile_24 : decode cX4_resilverFile 24 = .ok (.istore 6, 2) := by decide +kernel
theorem dX4_resilverFile_26 : decode cX4_resilverFile 26 = .ok (.iload 6, 2) := by decide +kernel
theorem dX4_resilverFile_28 : decode cX4_resilverFile 28 = .ok (.bipush 12, 2) := by decide +kernel
theorem dX4_resilverFile_30 : decode cX4_resilverFile 30 = .ok (.if_icmp .ge 44, 3) := by decide +kernel
theorem dX4_resilverFile_33 : decode cX4_resilverFile 33 = .ok (.iload_n 1, 1) := by decide +kernel
theorem dX4_resilverFile_34 : decode cX4_resilverFile 34 = .ok (.iload 6, 2) := by decide +kernel
theorem dX4_resilverFile_36 : decode cX4_resilverFile 36 = .ok (.invokestatic 66, 3) := by decide +kernel
theorem dX4_resilverFile_39 : decode cX4_resilverFile 39 = .ok (.istore 7, 2) := by decide +kernel
theorem dX4_resilverFile_41 : decode cX4_resilverFile 41 = .ok (.aload_n 0, 1) := by decide +kernel
theorem dX4_resilverFile_42 : decode cX4_resilverFile 42 = .ok (.getfield 19, 3) := by decide +kernel
theorem dX4_resilverFile_45 : decode cX4_resilverFile 45 = .ok (.iload 7, 2) := by decide +kernel
theorem dX4_resilverFile_47 : decode cX4_resilverFile 47 = .ok (.invokevirtual 217, 3) := by decide +kernel
theorem dX4_resilverFile_50 : decode cX4_resilverFile 50 = .ok (.iload 4, 2) := by decide +kernel
theorem dX4_resilverFile_52 : decode cX4_resilverFile 52 = .ok (.if_icmp .le 16, 3) := by decide +kernel
theorem dX4_resilverFile_55 : decode cX4_resilverFile 55 = .ok (.iload 5, 2) := by decide +kernel
theorem dX4_resilverFile_57 : decode cX4_resilverFile 57 = .ok (.aload_n 0, 1) := by decide +kernel
theorem dX4_resilverFile_58 : decode cX4_resilverFile 58 = .ok (.iload 7, 2) := by decide +kernel
theorem dX4_resilverFile_60 : decode cX4_resilverFile 60 = .ok (.iload_n 2, 1) := by decide +kernel
theorem dX4_resilverFile_61 : decode cX4_resilverFile 61 = .ok (.iload_n 3, 1) := by decide +kernel
theorem dX4_resilverFile_62 : decode cX4_resilverFile 62 = .ok (.invokevirtual 297, 3) := by decide +kernel
theorem dX4_resilverFile_65 : decode cX4_resilverFile 65 = .ok (.iadd, 1) := by decide +kernel
theorem dX4_resilverFile_66 : decode cX4_resilverFile 66 = .ok (.istore 5, 2) := by decide +kernel
theorem dX4_resilverFile_68 : decode cX4_resilverFile 68 = .ok (.iinc 6 1, 3) := by decide +kernel
theorem dX4_resilverFile_71 : decode cX4_resilverFile 71 = .ok (.goto (-45), 3) := by decide +kernel
theorem dX4_resilverFile_74 : decode cX4_resilverFile 74 = .ok (.iload 5, 2) := by decide +kernel
theorem dX4_resilverFile_76 : decode cX4_resilverFile 76 = .ok (.ireturn, 1) := by decide +kernel
def b_X4_resilverFile_26 (x1 : Int32) (x2 : Int32) (x3 : Int32) (x4 : Int32) (rec : Int32 → Int32 → Mem → Int32 × Int32 × Mem) (v5 : Int32) (v6 : Int32) (N : Mem) : Int32 × Int32 × Mem :=
  if 12 ≤ v6 then (v5, v6, N)
  else if (f_X3_birthOf (f_X4_blockPointer x1 v6) N) ≤ x4 then rec v5 (v6 + 1) N
  else zlet (f_X4_copyToSide (f_X4_blockPointer x1 v6) x2 x3 N) (fun q2 =>
  rec (v5 + q2.1) (v6 + 1) q2.2)
def l_X4_resilverFile_26 (x1 : Int32) (x2 : Int32) (x3 : Int32) (x4 : Int32) : Nat → Int32 → Int32 → Mem → Int32 × Int32 × Mem
  | 0, v5, v6, N => (v5, v6, N)
  | n + 1, v5, v6, N => b_X4_resilverFile_26 x1 x2 x3 x4 (l_X4_resilverFile_26 x1 x2 x3 x4 n) v5 v6 N
set_option maxRecDepth 100000 in
set_option maxHeartbeats 4000000 in
theorem kl_X4_resilverFile_26 (q : ZQ) (x1 : Int32) (x2 : Int32) (x3 : Int32) (x4 : Int32) {K : Int32 × Int32 × Mem → ZR} (hx : ∀ e : Int32 × Int32 × Mem, Zg (zgX q) mX4_resilverFile 0 0 0 0 (K e) 74 [some (.inr 0), some (.inl x1), some (.inl x2), some (.inl x3), some (.inl x4), some (.inl e.1), some (.inl e.2.1), none] [] e.2.2) :
    ∀ (n : Nat) (v5 : Int32) (v6 : Int32) (N : Mem), ((12 : Int32).toInt - (v6 : Int32).toInt).toNat < n → Zg (zgX q) mX4_resilverFile 0 0 0 0 (zlet (l_X4_resilverFile_26 x1 x2 x3 x4 n v5 v6 N) K) 26 [some (.inr 0), some (.inl x1), some (.inl x2), some (.inl x3), some (.inl x4), some (.inl v5), some (.inl v6), none] [] N := by
  intro n
  induction n with
  | zero => intro v5 v6 N hm; exact absurd hm (Nat.not_lt_zero _)
  | succ n ih =>
    intro v5 v6 N hm
    show Zg _ _ _ _ _ _ (zlet (b_X4_resilverFile_26 x1 x2 x3 x4 (l_X4_resilverFile_26 x1 x2 x3 x4 n) v5 v6 N) K) _ _ _ _
    unfold b_X4_resilverFile_26
    refine zg_iload (x := v6) dX4_resilverFile_26 rfl ?_
    refine zg_bipush (v := 12) dX4_resilverFile_28 rfl ?_
    refine zg_icmpz (tgt := 74) dX4_resilverFile_30 rfl rfl (fun c30 => ?_) (fun c30 => ?_)
    · refine zg_st (pc' := 74) (L' := [some (.inr 0), some (.inl x1), some (.inl x2), some (.inl x3), some (.inl x4), some (.inl v5), some (.inl v6), none]) (S' := []) (M' := N) rfl rfl rfl rfl ?_
      refine zg_drop (L' := [some (.inr 0), some (.inl x1), some (.inl x2), some (.inl x3), some (.inl x4), some (.inl v5), some (.inl v6), none]) ⟨rfl, rfl, rfl, rfl, rfl, rfl, rfl, trivial⟩ ?_
      exact hx (v5, v6, N)
    · refine zg_st (pc' := 33) (L' := [some (.inr 0), some (.inl x1), some (.inl x2), some (.inl x3), some (.inl x4), some (.inl v5), some (.inl v6), none]) (S' := []) (M' := N) rfl rfl rfl rfl ?_
      refine zg_iload_n (x := x1) dX4_resilverFile_33 rfl ?_
      refine zg_iload (x := v6) dX4_resilverFile_34 rfl ?_
      refine zg_cS1 (As := [.inl x1, .inl v6]) (S := []) (v := (f_X4_blockPointer x1 v6)) dX4_resilverFile_36 zk_X4_66 (k_X4_blockPointer q x1 v6 N) rfl ⟨by decide, by decide⟩ ⟨by decide, by decide⟩ rfl (Nat.le_of_ble_eq_true rfl) ?_
      refine zg_st (pc' := 39) (L' := [some (.inr 0), some (.inl x1), some (.inl x2), some (.inl x3), some (.inl x4), some (.inl v5), some (.inl v6), none]) (S' := [.inl (f_X4_blockPointer x1 v6)]) (M' := N) rfl rfl rfl rfl ?_
      refine zg_istore dX4_resilverFile_39 (by decide) ?_
      refine zg_st (pc' := 41) (L' := [some (.inr 0), some (.inl x1), some (.inl x2), some (.inl x3), some (.inl x4), some (.inl v5), some (.inl v6), some (.inl (f_X4_blockPointer x1 v6))]) (S' := []) (M' := N) rfl rfl rfl rfl ?_
      refine zg_aload_n (x := 0) dX4_resilverFile_41 rfl ?_
      refine zg_getf (v := .inr 2) dX4_resilverFile_42 zf_X4_19 rfl rfl rfl ?_
      refine zg_iload (x := (f_X4_blockPointer x1 v6)) dX4_resilverFile_45 rfl ?_
      refine zg_cV1 (As := [.inl (f_X4_blockPointer x1 v6)]) (S := []) (v := (f_X3_birthOf (f_X4_blockPointer x1 v6) N)) dX4_resilverFile_47 zk_X4_217 (k_X3_birthOf q (f_X4_blockPointer x1 v6) N) rfl rfl ⟨by decide, by decide⟩ ⟨by decide, by decide⟩ rfl (Nat.le_of_ble_eq_true rfl) ?_
      refine zg_st (pc' := 50) (L' := [some (.inr 0), some (.inl x1), some (.inl x2), some (.inl x3), some (.inl x4), some (.inl v5), some (.inl v6), some (.inl (f_X4_blockPointer x1 v6))]) (S' := [.inl (f_X3_birthOf (f_X4_blockPointer x1 v6) N)]) (M' := N) rfl rfl rfl rfl ?_
      refine zg_iload (x := x4) dX4_resilverFile_50 rfl ?_
      refine zg_icmpz (tgt := 68) dX4_resilverFile_52 rfl rfl (fun c52 => ?_) (fun c52 => ?_)
      · refine zg_st (pc' := 68) (L' := [some (.inr 0), some (.inl x1), some (.inl x2), some (.inl x3), some (.inl x4), some (.inl v5), some (.inl v6), some (.inl (f_X4_blockPointer x1 v6))]) (S' := []) (M' := N) rfl rfl rfl rfl ?_
        refine zg_iinc (v := (v6 + 1)) dX4_resilverFile_68 rfl (by decide) rfl ?_
        refine zg_st (pc' := 71) (L' := [some (.inr 0), some (.inl x1), some (.inl x2), some (.inl x3), some (.inl x4), some (.inl v5), some (.inl (v6 + 1)), some (.inl (f_X4_blockPointer x1 v6))]) (S' := []) (M' := N) rfl rfl rfl rfl ?_
        refine zg_goto (tgt := 26) dX4_resilverFile_71 rfl ?_
        refine zg_st (pc' := 26) (L' := [some (.inr 0), some (.inl x1), some (.inl x2), some (.inl x3), some (.inl x4), some (.inl v5), some (.inl (v6 + 1)), some (.inl (f_X4_blockPointer x1 v6))]) (S' := []) (M' := N) rfl rfl rfl rfl ?_
        refine zg_drop (L' := [some (.inr 0), some (.inl x1), some (.inl x2), some (.inl x3), some (.inl x4), some (.inl v5), some (.inl (v6 + 1)), none]) ⟨rfl, rfl, rfl, rfl, rfl, rfl, rfl, trivial⟩ ?_
        exact ih v5 (v6 + 1) N (z_up c30 hm)
      · refine zg_st (pc' := 55) (L' := [some (.inr 0), some (.inl x1), some (.inl x2), some (.inl x3), some (.inl x4), some (.inl v5), some (.inl v6), some (.inl (f_X4_blockPointer x1 v6))]) (S' := []) (M' := N) rfl rfl rfl rfl ?_
        refine zg_iload (x := v5) dX4_resilverFile_55 rfl ?_
        refine zg_aload_n (x := 0) dX4_resilverFile_57 rfl ?_
        refine zg_iload (x := (f_X4_blockPointer x1 v6)) dX4_resilverFile_58 rfl ?_
        refine zg_iload_n (x := x2) dX4_resilverFile_60 rfl ?_
        refine zg_iload_n (x := x3) dX4_resilverFile_61 rfl ?_
        refine zg_cVIM (As := [.inl (f_X4_blockPointer x1 v6), .inl x2, .inl x3]) (S := [.inl v5]) dX4_resilverFile_62 zk_X4_297 (k_X4_copyToSide q (f_X4_blockPointer x1 v6) x2 x3 N) rfl rfl ⟨by decide, by decide⟩ ⟨by decide, by decide⟩ rfl (Nat.le_of_ble_eq_true rfl) (fun q2 e_q2 => ?_)
        try dsimp only
        refine zg_st (pc' := 65) (L' := [some (.inr 0), some (.inl x1), some (.inl x2), some (.inl x3), some (.inl x4), some (.inl v5), some (.inl v6), some (.inl (f_X4_blockPointer x1 v6))]) (S' := [.inl q2.1, .inl v5]) (M' := q2.2) rfl rfl rfl rfl ?_
        refine zg_iadd dX4_resilverFile_65 ?_
        refine zg_istore dX4_resilverFile_66 (by decide) ?_
        refine zg_st (pc' := 68) (L' := [some (.inr 0), some (.inl x1), some (.inl x2), some (.inl x3), some (.inl x4), some (.inl (v5 + q2.1)), some (.inl v6), some (.inl (f_X4_blockPointer x1 v6))]) (S' := []) (M' := q2.2) rfl rfl rfl rfl ?_
        refine zg_iinc (v := (v6 + 1)) dX4_resilverFile_68 rfl (by decide) rfl ?_
        refine zg_st (pc' := 71) (L' := [some (.inr 0), some (.inl x1), some (.inl x2), some (.inl x3), some (.inl x4), some (.inl (v5 + q2.1)), some (.inl (v6 + 1)), some (.inl (f_X4_blockPointer x1 v6))]) (S' := []) (M' := q2.2) rfl rfl rfl rfl ?_
        refine zg_goto (tgt := 26) dX4_resilverFile_71 rfl ?_
        refine zg_st (pc' := 26) (L' := [some (.inr 0), some (.inl x1), some (.inl x2), some (.inl x3), some (.inl x4), some (.inl (v5 + q2.1)), some (.inl (v6 + 1)), some (.inl (f_X4_blockPointer x1 v6))]) (S' := []) (M' := q2.2) rfl rfl rfl rfl ?_
        refine zg_drop (L' := [some (.inr 0), some (.inl x1), some (.inl x2), some (.inl x3), some (.inl x4), some (.inl (v5 + q2.1)), some (.inl (v6 + 1)), none]) ⟨rfl, rfl, rfl, rfl, rfl, rfl, rfl, trivial⟩ ?_
        exact ih (v5 + q2.1) (v6 + 1) q2.2 (z_up c30 hm)
def f_X4_resilverFile (p1 : Int32) (p2 : Int32) (p3 : Int32) (M : Mem) : (Int32 × Mem) :=
  zlet (f_X4_copyToSide (f_X4_filePointer p1) p2 p3 M) (fun q1 =>
  zlet (l_X4_resilverFile_26 p1 p2 p3 (f_X0_outageOf p2 p3 M) 13 q1.1 0 q1.2) (fun s3 =>
    (s3.1, s3.2.2)))
set_option maxRecDepth 100000 in
set_option maxHeartbeats 4000000 in
theorem k_X4_resilverFile (q : ZQ) (p1 : Int32) (p2 : Int32) (p3 : Int32) (M : Mem) : Zc (zgX q) mX4_resilverFile 0 0 [.inr 0, .inl p1, .inl p2, .inl p3] M (wIM (f_X4_resilverFile p1 p2 p3 M)) := by
  refine Zc.of (by decide) zi_X4_resilverFile.1 (Nat.le_of_ble_eq_true rfl) rfl ?_
  show Zg _ _ _ _ _ _ (zlet (f_X4_resilverFile p1 p2 p3 M) wIM) _ _ _ _
  unfold f_X4_resilverFile
  refine zg_aload_n (x := 0) dX4_resilverFile_0 rfl ?_
  refine zg_getf (v := .inr 1) dX4_resilverFile_1 zf_X4_12 rfl rfl rfl ?_
  refine zg_iload_n (x := p2) dX4_resilverFile_4 rfl ?_
  refine zg_iload_n (x := p3) dX4_resilverFile_5 rfl ?_
  refine zg_cV1 (As := [.inl p2, .inl p3]) (S := []) (v := (f_X0_outageOf p2 p3 M)) dX4_resilverFile_6 zk_X4_294 (k_X0_outageOf q p2 p3 M) rfl rfl ⟨by decide, by decide⟩ ⟨by decide, by decide⟩ rfl (Nat.le_of_ble_eq_true rfl) ?_
  refine zg_st (pc' := 9) (L' := [some (.inr 0), some (.inl p1), some (.inl p2), some (.inl p3), none, none, none, none]) (S' := [.inl (f_X0_outageOf p2 p3 M)]) (M' := M) rfl rfl rfl rfl ?_
  refine zg_istore dX4_resilverFile_9 (by decide) ?_
  refine zg_st (pc' := 11) (L' := [some (.inr 0), some (.inl p1), some (.inl p2), some (.inl p3), some (.inl (f_X0_outageOf p2 p3 M)), none, none, none]) (S' := []) (M' := M) rfl rfl rfl rfl ?_
  refine zg_aload_n (x := 0) dX4_resilverFile_11 rfl ?_
  refine zg_iload_n (x := p1) dX4_resilverFile_12 rfl ?_
  refine zg_cS1 (As := [.inl p1]) (S := [.inr 0]) (v := (f_X4_filePointer p1)) dX4_resilverFile_13 zk_X4_93 (k_X4_filePointer q p1 M) rfl ⟨by decide, by decide⟩ ⟨by decide, by decide⟩ rfl (Nat.le_of_ble_eq_true rfl) ?_
  refine zg_st (pc' := 16) (L' := [some (.inr 0), some (.inl p1), some (.inl p2), some (.inl p3), some (.inl (f_X0_outageOf p2 p3 M)), none, none, none]) (S' := [.inl (f_X4_filePointer p1), .inr 0]) (M' := M) rfl rfl rfl rfl ?_
  refine zg_iload_n (x := p2) dX4_resilverFile_16 rfl ?_
  refine zg_iload_n (x := p3) dX4_resilverFile_17 rfl ?_
  refine zg_cVIM (As := [.inl (f_X4_filePointer p1), .inl p2, .inl p3]) (S := []) dX4_resilverFile_18 zk_X4_297 (k_X4_copyToSide q (f_X4_filePointer p1) p2 p3 M) rfl rfl ⟨by decide, by decide⟩ ⟨by decide, by decide⟩ rfl (Nat.le_of_ble_eq_true rfl) (fun q1 e_q1 => ?_)
  try dsimp only
  refine zg_st (pc' := 21) (L' := [some (.inr 0), some (.inl p1), some (.inl p2), some (.inl p3), some (.inl (f_X0_outageOf p2 p3 M)), none, none, none]) (S' := [.inl q1.1]) (M' := q1.2) rfl rfl rfl rfl ?_
  refine zg_istore dX4_resilverFile_21 (by decide) ?_
  refine zg_st (pc' := 23) (L' := [some (.inr 0), some (.inl p1), some (.inl p2), some (.inl p3), some (.inl (f_X0_outageOf p2 p3 M)), some (.inl q1.1), none, none]) (S' := []) (M' := q1.2) rfl rfl rfl rfl ?_
  refine zg_iconst (v := 0) dX4_resilverFile_23 rfl ?_
  refine zg_istore dX4_resilverFile_24 (by decide) ?_
  refine zg_st (pc' := 26) (L' := [some (.inr 0), some (.inl p1), some (.inl p2), some (.inl p3), some (.inl (f_X0_outageOf p2 p3 M)), some (.inl q1.1), some (.inl 0), none]) (S' := []) (M' := q1.2) rfl rfl rfl rfl ?_
  refine zg_asc ?_
  refine zg_drop (L' := [some (.inr 0), some (.inl p1), some (.inl p2), some (.inl p3), some (.inl (f_X0_outageOf p2 p3 M)), some (.inl q1.1), some (.inl 0), none]) ⟨rfl, rfl, rfl, rfl, rfl, rfl, rfl, trivial⟩ ?_
  refine kl_X4_resilverFile_26 q p1 p2 p3 (f_X0_outageOf p2 p3 M)  (fun s3 => ?_) 13 q1.1 0 q1.2 (by decide)
  try dsimp only [Sum.elim_inr]
  refine zg_st (pc' := 74) (L' := [some (.inr 0), some (.inl p1), some (.inl p2), some (.inl p3), some (.inl (f_X0_outageOf p2 p3 M)), some (.inl s3.1), some (.inl s3.2.1), none]) (S' := []) (M' := s3.2.2) rfl rfl rfl rfl ?_
  refine zg_iload (x := s3.1) dX4_resilverFile_74 rfl ?_
  exact zg_iret dX4_resilverFile_76 rfl rfl ⟨by decide, by decide⟩ rfl
theorem dX4_resilver_0 : decode cX4_resilver 0 = .ok (.aload_n 0, 1) := by decide +kernel
theorem dX4_resilver_1 : decode cX4_resilver 1 = .ok (.getfield 12, 3) := by decide +kernel
theorem dX4_resilver_4 : decode cX4_resilver 4 = .ok (.iload_n 1, 1) := by decide +kernel
theorem dX4_resilver_5 : decode cX4_resilver 5 = .ok (.iload_n 2, 1) := by decide +kernel
theorem dX4_resilver_6 : decode cX4_resilver 6 = .ok (.invokevirtual 294, 3) := by decide +kernel
theorem dX4_resilver_9 : decode cX4_resilver 9 = .ok (.istore_n 3, 1) := by decide +kernel
theorem dX4_resilver_10 : decode cX4_resilver 10 = .ok (.aload_n 0, 1) := by decide +kernel
theorem dX4_resilver_11 : decode cX4_resilver 11 = .ok (.getfield 19, 3) := by decide +kernel
theorem dX4_resilver_14 : decode cX4_resilver 14 = .ok (.bipush 52, 2) := by decide +kernel
theorem dX4_resilver_16 : decode cX4_resilver 16 = .ok (.invokevirtual 217, 3) := by decide +kernel
theorem dX4_resilver_19 : decode cX4_resilver 19 = .ok (.iload_n 3, 1) := by decide +kernel
theorem dX4_resilver_20 : decode cX4_resilver 20 = .ok (.if_icmp .gt 5, 3) := by decide +kernel
theorem dX4_resilver_23 : decode cX4_resilver 23 = .ok (.iconst 0, 1) := by decide +kernel
theorem dX4_resilver_24 : decode cX4_resilver 24 = .ok (.ireturn, 1) := by decide +kernel
theorem dX4_resilver_25 : decode cX4_resilver 25 = .ok (.aload_n 0, 1) := by decide +kernel
theorem dX4_resilver_26 : decode cX4_resilver 26 = .ok (.bipush 52, 2) := by decide +kernel
theorem dX4_resilver_28 : decode cX4_resilver 28 = .ok (.iload_n 1, 1) := by decide +kernel
theorem dX4_resilver_29 : decode cX4_resilver 29 = .ok (.iload_n 2, 1) := by decide +kernel
theorem dX4_resilver_30 : decode cX4_resilver 30 = .ok (.invokevirtual 297, 3) := by decide +kernel
theorem dX4_resilver_33 : decode cX4_resilver 33 = .ok (.istore 4, 2) := by decide +kernel
theorem dX4_resilver_35 : decode cX4_resilver 35 = .ok (.iconst 0, 1) := by decide +kernel
theorem dX4_resilver_36 : decode cX4_resilver 36 = .ok (.istore 5, 2) := by decide +kernel
theorem dX4_resilver_38 : decode cX4_resilver 38 = .ok (.iload 5, 2) := by decide +kernel
theorem dX4_resilver_40 : decode cX4_resilver 40 = .ok (.iconst 4, 1) := by decide +kernel
theorem dX4_resilver_41 : decode cX4_resilver 41 = .ok (.if_icmp .ge 38, 3) := by decide +kernel
theorem dX4_resilver_44 : decode cX4_resilver 44 = .ok (.aload_n 0, 1) := by decide +kernel
theorem dX4_resilver_45 : decode cX4_resilver 45 = .ok (.getfield 19, 3) := by decide +kernel
theorem dX4_resilver_48 : decode cX4_resilver 48 = .ok (.iload 5, 2) := by decide +kernel
theorem dX4_resilver_50 : decode cX4_resilver 50 = .ok (.invokestatic 93, 3) := by decide +kernel
theorem dX4_resilver_53 : decode cX4_resilver 53 = .ok (.invokevirtual 217, 3) := by decide +kernel
theorem dX4_resilver_56 : decode cX4_resilver 56 = .ok (.iload_n 3, 1) := by decide +kernel
theorem dX4_resilver_57 : decode cX4_resilver 57 = .ok (.if_icmp .le 16, 3) := by decide +kernel
theorem dX4_resilver_60 : decode cX4_resilver 60 = .ok (.iload 4, 2) := by decide +kernel
theorem dX4_resilver_62 : decode cX4_resilver 62 = .ok (.aload_n 0, 1) := by decide +kernel
theorem dX4_resilver_63 : decode cX4_resilver 63 = .ok (.iload 5, 2) := by decide +kernel
theorem dX4_resilver_65 : decode cX4_resilver 65 = .ok (.iload_n 1, 1) := by decide +kernel
theorem dX4_resilver_66 : decode cX4_resilver 66 = .ok (.iload_n 2, 1) := by decide +kernel
theorem dX4_resilver_67 : decode cX4_resilver 67 = .ok (.invokevirtual 301, 3) := by decide +kernel
theorem dX4_resilver_70 : decode cX4_resilver 70 = .ok (.iadd, 1) := by decide +kernel
theorem dX4_resilver_71 : decode cX4_resilver 71 = .ok (.istore 4, 2) := by decide +kernel
theorem dX4_resilver_73 : decode cX4_resilver 73 = .ok (.iinc 5 1, 3) := by decide +kernel
theorem dX4_resilver_76 : decode cX4_resilver 76 = .ok (.goto (-38), 3) := by decide +kernel
theorem dX4_resilver_79 : decode cX4_resilver 79 = .ok (.iload 4, 2) := by decide +kernel
theorem dX4_resilver_81 : decode cX4_resilver 81 = .ok (.ireturn, 1) := by decide +kernel
def b_X4_resilver_38 (x1 : Int32) (x2 : Int32) (x3 : Int32) (rec : Int32 → Int32 → Mem → Int32 × Int32 × Mem) (v4 : Int32) (v5 : Int32) (N : Mem) : Int32 × Int32 × Mem :=
  if 4 ≤ v5 then (v4, v5, N)
  else if (f_X3_birthOf (f_X4_filePointer v5) N) ≤ x3 then rec v4 (v5 + 1) N
  else zlet (f_X4_resilverFile v5 x1 x2 N) (fun q2 =>
  rec (v4 + q2.1) (v5 + 1) q2.2)
def l_X4_resilver_38 (x1 : Int32) (x2 : Int32) (x3 : Int32) : Nat → Int32 → Int32 → Mem → Int32 × Int32 × Mem
  | 0, v4, v5, N => (v4, v5, N)
  | n + 1, v4, v5, N => b_X4_resilver_38 x1 x2 x3 (l_X4_resilver_38 x1 x2 x3 n) v4 v5 N
set_option maxRecDepth 100000 in
set_option maxHeartbeats 4000000 in
theorem kl_X4_resilver_38 (q : ZQ) (x1 : Int32) (x2 : Int32) (x3 : Int32) {K : Int32 × Int32 × Mem → ZR} (hx : ∀ e : Int32 × Int32 × Mem, Zg (zgX q) mX4_resilver 0 0 0 0 (K e) 79 [some (.inr 0), some (.inl x1), some (.inl x2), some (.inl x3), some (.inl e.1), some (.inl e.2.1)] [] e.2.2) :
    ∀ (n : Nat) (v4 : Int32) (v5 : Int32) (N : Mem), ((4 : Int32).toInt - (v5 : Int32).toInt).toNat < n → Zg (zgX q) mX4_resilver 0 0 0 0 (zlet (l_X4_resilver_38 x1 x2 x3 n v4 v5 N) K) 38 [some (.inr 0), some (.inl x1), some (.inl x2), some (.inl x3), some (.inl v4), some (.inl v5)] [] N := by
  intro n
  induction n with
  | zero => intro v4 v5 N hm; exact absurd hm (Nat.not_lt_zero _)
  | succ n ih =>
    intro v4 v5 N hm
    show Zg _ _ _ _ _ _ (zlet (b_X4_resilver_38 x1 x2 x3 (l_X4_resilver_38 x1 x2 x3 n) v4 v5 N) K) _ _ _ _
    unfold b_X4_resilver_38
    refine zg_iload (x := v5) dX4_resilver_38 rfl ?_
    refine zg_iconst (v := 4) dX4_resilver_40 rfl ?_
    refine zg_icmpz (tgt := 79) dX4_resilver_41 rfl rfl (fun c41 => ?_) (fun c41 => ?_)
    · refine zg_st (pc' := 79) (L' := [some (.inr 0), some (.inl x1), some (.inl x2), some (.inl x3), some (.inl v4), some (.inl v5)]) (S' := []) (M' := N) rfl rfl rfl rfl ?_
      refine zg_drop (L' := [some (.inr 0), some (.inl x1), some (.inl x2), some (.inl x3), some (.inl v4), some (.inl v5)]) ⟨rfl, rfl, rfl, rfl, rfl, rfl, trivial⟩ ?_
      exact hx (v4, v5, N)
    · refine zg_st (pc' := 44) (L' := [some (.inr 0), some (.inl x1), some (.inl x2), some (.inl x3), some (.inl v4), some (.inl v5)]) (S' := []) (M' := N) rfl rfl rfl rfl ?_
      refine zg_aload_n (x := 0) dX4_resilver_44 rfl ?_
      refine zg_getf (v := .inr 2) dX4_resilver_45 zf_X4_19 rfl rfl rfl ?_
      refine zg_iload (x := v5) dX4_resilver_48 rfl ?_
      refine zg_cS1 (As := [.inl v5]) (S := [.inr 2]) (v := (f_X4_filePointer v5)) dX4_resilver_50 zk_X4_93 (k_X4_filePointer q v5 N) rfl ⟨by decide, by decide⟩ ⟨by decide, by decide⟩ rfl (Nat.le_of_ble_eq_true rfl) ?_
      refine zg_st (pc' := 53) (L' := [some (.inr 0), some (.inl x1), some (.inl x2), some (.inl x3), some (.inl v4), some (.inl v5)]) (S' := [.inl (f_X4_filePointer v5), .inr 2]) (M' := N) rfl rfl rfl rfl ?_
      refine zg_cV1 (As := [.inl (f_X4_filePointer v5)]) (S := []) (v := (f_X3_birthOf (f_X4_filePointer v5) N)) dX4_resilver_53 zk_X4_217 (k_X3_birthOf q (f_X4_filePointer v5) N) rfl rfl ⟨by decide, by decide⟩ ⟨by decide, by decide⟩ rfl (Nat.le_of_ble_eq_true rfl) ?_
      refine zg_st (pc' := 56) (L' := [some (.inr 0), some (.inl x1), some (.inl x2), some (.inl x3), some (.inl v4), some (.inl v5)]) (S' := [.inl (f_X3_birthOf (f_X4_filePointer v5) N)]) (M' := N) rfl rfl rfl rfl ?_
      refine zg_iload_n (x := x3) dX4_resilver_56 rfl ?_
      refine zg_icmpz (tgt := 73) dX4_resilver_57 rfl rfl (fun c57 => ?_) (fun c57 => ?_)
      · refine zg_st (pc' := 73) (L' := [some (.inr 0), some (.inl x1), some (.inl x2), some (.inl x3), some (.inl v4), some (.inl v5)]) (S' := []) (M' := N) rfl rfl rfl rfl ?_
        refine zg_iinc (v := (v5 + 1)) dX4_resilver_73 rfl (by decide) rfl ?_
        refine zg_st (pc' := 76) (L' := [some (.inr 0), some (.inl x1), some (.inl x2), some (.inl x3), some (.inl v4), some (.inl (v5 + 1))]) (S' := []) (M' := N) rfl rfl rfl rfl ?_
        refine zg_goto (tgt := 38) dX4_resilver_76 rfl ?_
        refine zg_st (pc' := 38) (L' := [some (.inr 0), some (.inl x1), some (.inl x2), some (.inl x3), some (.inl v4), some (.inl (v5 + 1))]) (S' := []) (M' := N) rfl rfl rfl rfl ?_
        refine zg_drop (L' := [some (.inr 0), some (.inl x1), some (.inl x2), some (.inl x3), some (.inl v4), some (.inl (v5 + 1))]) ⟨rfl, rfl, rfl, rfl, rfl, rfl, trivial⟩ ?_
        exact ih v4 (v5 + 1) N (z_up c41 hm)
      · refine zg_st (pc' := 60) (L' := [some (.inr 0), some (.inl x1), some (.inl x2), some (.inl x3), some (.inl v4), some (.inl v5)]) (S' := []) (M' := N) rfl rfl rfl rfl ?_
        refine zg_iload (x := v4) dX4_resilver_60 rfl ?_
        refine zg_aload_n (x := 0) dX4_resilver_62 rfl ?_
        refine zg_iload (x := v5) dX4_resilver_63 rfl ?_
        refine zg_iload_n (x := x1) dX4_resilver_65 rfl ?_
        refine zg_iload_n (x := x2) dX4_resilver_66 rfl ?_
        refine zg_cVIM (As := [.inl v5, .inl x1, .inl x2]) (S := [.inl v4]) dX4_resilver_67 zk_X4_301 (k_X4_resilverFile q v5 x1 x2 N) rfl rfl ⟨by decide, by decide⟩ ⟨by decide, by decide⟩ rfl (Nat.le_of_ble_eq_true rfl) (fun q2 e_q2 => ?_)
        try dsimp only
        refine zg_st (pc' := 70) (L' := [some (.inr 0), some (.inl x1), some (.inl x2), some (.inl x3), some (.inl v4), some (.inl v5)]) (S' := [.inl q2.1, .inl v4]) (M' := q2.2) rfl rfl rfl rfl ?_
        refine zg_iadd dX4_resilver_70 ?_
        refine zg_istore dX4_resilver_71 (by decide) ?_
        refine zg_st (pc' := 73) (L' := [some (.inr 0), some (.inl x1), some (.inl x2), some (.inl x3), some (.inl (v4 + q2.1)), some (.inl v5)]) (S' := []) (M' := q2.2) rfl rfl rfl rfl ?_
        refine zg_iinc (v := (v5 + 1)) dX4_resilver_73 rfl (by decide) rfl ?_
        refine zg_st (pc' := 76) (L' := [some (.inr 0), some (.inl x1), some (.inl x2), some (.inl x3), some (.inl (v4 + q2.1)), some (.inl (v5 + 1))]) (S' := []) (M' := q2.2) rfl rfl rfl rfl ?_
        refine zg_goto (tgt := 38) dX4_resilver_76 rfl ?_
        refine zg_st (pc' := 38) (L' := [some (.inr 0), some (.inl x1), some (.inl x2), some (.inl x3), some (.inl (v4 + q2.1)), some (.inl (v5 + 1))]) (S' := []) (M' := q2.2) rfl rfl rfl rfl ?_
        refine zg_drop (L' := [some (.inr 0), some (.inl x1), some (.inl x2), some (.inl x3), some (.inl (v4 + q2.1)), some (.inl (v5 + 1))]) ⟨rfl, rfl, rfl, rfl, rfl, rfl, trivial⟩ ?_
        exact ih (v4 + q2.1) (v5 + 1) q2.2 (z_up c41 hm)
def f_X4_resilver (p1 : Int32) (p2 : Int32) (M : Mem) : (Int32 × Mem) :=
  if (f_X0_outageOf p1 p2 M) < (f_X3_birthOf 52 M) then zlet (f_X4_copyToSide 52 p1 p2 M) (fun q1 =>
    zlet (l_X4_resilver_38 p1 p2 (f_X0_outageOf p1 p2 M) 5 q1.1 0 q1.2) (fun s3 =>
      (s3.1, s3.2.2)))
  else (0, M)
set_option maxRecDepth 100000 in
set_option maxHeartbeats 4000000 in
theorem k_X4_resilver (q : ZQ) (p1 : Int32) (p2 : Int32) (M : Mem) : Zc (zgX q) mX4_resilver 0 0 [.inr 0, .inl p1, .inl p2] M (wIM (f_X4_resilver p1 p2 M)) := by
  refine Zc.of (by decide) zi_X4_resilver.1 (Nat.le_of_ble_eq_true rfl) rfl ?_
  show Zg _ _ _ _ _ _ (zlet (f_X4_resilver p1 p2 M) wIM) _ _ _ _
  unfold f_X4_resilver
  refine zg_aload_n (x := 0) dX4_resilver_0 rfl ?_
  refine zg_getf (v := .inr 1) dX4_resilver_1 zf_X4_12 rfl rfl rfl ?_
  refine zg_iload_n (x := p1) dX4_resilver_4 rfl ?_
  refine zg_iload_n (x := p2) dX4_resilver_5 rfl ?_
  refine zg_cV1 (As := [.inl p1, .inl p2]) (S := []) (v := (f_X0_outageOf p1 p2 M)) dX4_resilver_6 zk_X4_294 (k_X0_outageOf q p1 p2 M) rfl rfl ⟨by decide, by decide⟩ ⟨by decide, by decide⟩ rfl (Nat.le_of_ble_eq_true rfl) ?_
  refine zg_st (pc' := 9) (L' := [some (.inr 0), some (.inl p1), some (.inl p2), none, none, none]) (S' := [.inl (f_X0_outageOf p1 p2 M)]) (M' := M) rfl rfl rfl rfl ?_
  refine zg_istore_n dX4_resilver_9 (by decide) ?_
  refine zg_st (pc' := 10) (L' := [some (.inr 0), some (.inl p1), some (.inl p2), some (.inl (f_X0_outageOf p1 p2 M)), none, none]) (S' := []) (M' := M) rfl rfl rfl rfl ?_
  refine zg_aload_n (x := 0) dX4_resilver_10 rfl ?_
  refine zg_getf (v := .inr 2) dX4_resilver_11 zf_X4_19 rfl rfl rfl ?_
  refine zg_bipush (v := 52) dX4_resilver_14 rfl ?_
  refine zg_cV1 (As := [.inl 52]) (S := []) (v := (f_X3_birthOf 52 M)) dX4_resilver_16 zk_X4_217 (k_X3_birthOf q 52 M) rfl rfl ⟨by decide, by decide⟩ ⟨by decide, by decide⟩ rfl (Nat.le_of_ble_eq_true rfl) ?_
  refine zg_st (pc' := 19) (L' := [some (.inr 0), some (.inl p1), some (.inl p2), some (.inl (f_X0_outageOf p1 p2 M)), none, none]) (S' := [.inl (f_X3_birthOf 52 M)]) (M' := M) rfl rfl rfl rfl ?_
  refine zg_iload_n (x := (f_X0_outageOf p1 p2 M)) dX4_resilver_19 rfl ?_
  refine zg_icmpz (tgt := 25) dX4_resilver_20 rfl rfl (fun c20 => ?_) (fun c20 => ?_)
  · refine zg_st (pc' := 25) (L' := [some (.inr 0), some (.inl p1), some (.inl p2), some (.inl (f_X0_outageOf p1 p2 M)), none, none]) (S' := []) (M' := M) rfl rfl rfl rfl ?_
    refine zg_aload_n (x := 0) dX4_resilver_25 rfl ?_
    refine zg_bipush (v := 52) dX4_resilver_26 rfl ?_
    refine zg_iload_n (x := p1) dX4_resilver_28 rfl ?_
    refine zg_iload_n (x := p2) dX4_resilver_29 rfl ?_
    refine zg_cVIM (As := [.inl 52, .inl p1, .inl p2]) (S := []) dX4_resilver_30 zk_X4_297 (k_X4_copyToSide q 52 p1 p2 M) rfl rfl ⟨by decide, by decide⟩ ⟨by decide, by decide⟩ rfl (Nat.le_of_ble_eq_true rfl) (fun q1 e_q1 => ?_)
    try dsimp only
    refine zg_st (pc' := 33) (L' := [some (.inr 0), some (.inl p1), some (.inl p2), some (.inl (f_X0_outageOf p1 p2 M)), none, none]) (S' := [.inl q1.1]) (M' := q1.2) rfl rfl rfl rfl ?_
    refine zg_istore dX4_resilver_33 (by decide) ?_
    refine zg_st (pc' := 35) (L' := [some (.inr 0), some (.inl p1), some (.inl p2), some (.inl (f_X0_outageOf p1 p2 M)), some (.inl q1.1), none]) (S' := []) (M' := q1.2) rfl rfl rfl rfl ?_
    refine zg_iconst (v := 0) dX4_resilver_35 rfl ?_
    refine zg_istore dX4_resilver_36 (by decide) ?_
    refine zg_st (pc' := 38) (L' := [some (.inr 0), some (.inl p1), some (.inl p2), some (.inl (f_X0_outageOf p1 p2 M)), some (.inl q1.1), some (.inl 0)]) (S' := []) (M' := q1.2) rfl rfl rfl rfl ?_
    refine zg_asc ?_
    refine zg_drop (L' := [some (.inr 0), some (.inl p1), some (.inl p2), some (.inl (f_X0_outageOf p1 p2 M)), some (.inl q1.1), some (.inl 0)]) ⟨rfl, rfl, rfl, rfl, rfl, rfl, trivial⟩ ?_
    refine kl_X4_resilver_38 q p1 p2 (f_X0_outageOf p1 p2 M)  (fun s3 => ?_) 5 q1.1 0 q1.2 (by decide)
    try dsimp only [Sum.elim_inr]
    refine zg_st (pc' := 79) (L' := [some (.inr 0), some (.inl p1), some (.inl p2), some (.inl (f_X0_outageOf p1 p2 M)), some (.inl s3.1), some (.inl s3.2.1)]) (S' := []) (M' := s3.2.2) rfl rfl rfl rfl ?_
    refine zg_iload (x := s3.1) dX4_resilver_79 rfl ?_
    exact zg_iret dX4_resilver_81 rfl rfl ⟨by decide, by decide⟩ rfl
  · refine zg_st (pc' := 23) (L' := [some (.inr 0), some (.inl p1), some (.inl p2), some (.inl (f_X0_outageOf p1 p2 M)), none, none]) (S' := []) (M' := M) rfl rfl rfl rfl ?_
    refine zg_iconst (v := 0) dX4_resilver_23 rfl ?_
    exact zg_iret dX4_resilver_24 rfl rfl ⟨by decide, by decide⟩ rfl
theorem dX4_healEveryCell_0 : decode cX4_healEveryCell 0 = .ok (.iconst 0, 1) := by decide +kernel
theorem dX4_healEveryCell_1 : decode cX4_healEveryCell 1 = .ok (.istore_n 2, 1) := by decide +kernel
theorem dX4_healEveryCell_2 : decode cX4_healEveryCell 2 = .ok (.iconst 0, 1) := by decide +kernel
theorem dX4_healEveryCell_3 : decode cX4_healEveryCell 3 = .ok (.istore_n 3, 1) := by decide +kernel
theorem dX4_healEveryCell_4 : decode cX4_healEveryCell 4 = .ok (.iload_n 3, 1) := by decide +kernel
theorem dX4_healEveryCell_5 : decode cX4_healEveryCell 5 = .ok (.iconst 2, 1) := by decide +kernel
theorem dX4_healEveryCell_6 : decode cX4_healEveryCell 6 = .ok (.if_icmp .ge 49, 3) := by decide +kernel
theorem dX4_healEveryCell_9 : decode cX4_healEveryCell 9 = .ok (.aload_n 0, 1) := by decide +kernel
theorem dX4_healEveryCell_10 : decode cX4_healEveryCell 10 = .ok (.getfield 19, 3) := by decide +kernel
theorem dX4_healEveryCell_13 : decode cX4_healEveryCell 13 = .ok (.iload_n 1, 1) := by decide +kernel
theorem dX4_healEveryCell_14 : decode cX4_healEveryCell 14 = .ok (.iload_n 3, 1) := by decide +kernel
theorem dX4_healEveryCell_15 : decode cX4_healEveryCell 15 = .ok (.invokevirtual 209, 3) := by decide +kernel
theorem dX4_healEveryCell_18 : decode cX4_healEveryCell 18 = .ok (.istore 4, 2) := by decide +kernel
theorem dX4_healEveryCell_20 : decode cX4_healEveryCell 20 = .ok (.iconst 0, 1) := by decide +kernel
theorem dX4_healEveryCell_21 : decode cX4_healEveryCell 21 = .ok (.istore 5, 2) := by decide +kernel
theorem dX4_healEveryCell_23 : decode cX4_healEveryCell 23 = .ok (.iload 5, 2) := by decide +kernel
theorem dX4_healEveryCell_25 : decode cX4_healEveryCell 25 = .ok (.iconst 2, 1) := by decide +kernel
theorem dX4_healEveryCell_26 : decode cX4_healEveryCell 26 = .ok (.if_icmp .ge 23, 3) := by decide +kernel
theorem dX4_healEveryCell_29 : decode cX4_healEveryCell 29 = .ok (.iload_n 2, 1) := by decide +kernel
theorem dX4_healEveryCell_30 : decode cX4_healEveryCell 30 = .ok (.aload_n 0, 1) := by decide +kernel
theorem dX4_healEveryCell_31 : decode cX4_healEveryCell 31 = .ok (.getfield 12, 3) := by decide +kernel
theorem dX4_healEveryCell_34 : decode cX4_healEveryCell 34 = .ok (.iload 4, 2) := by decide +kernel
theorem dX4_healEveryCell_36 : decode cX4_healEveryCell 36 = .ok (.iload 5, 2) := by decide +kernel
theorem dX4_healEveryCell_38 : decode cX4_healEveryCell 38 = .ok (.invokevirtual 237, 3) := by decide +kernel
theorem dX4_healEveryCell_41 : decode cX4_healEveryCell 41 = .ok (.iadd, 1) := by decide +kernel
theorem dX4_healEveryCell_42 : decode cX4_healEveryCell 42 = .ok (.istore_n 2, 1) := by decide +kernel
theorem dX4_healEveryCell_43 : decode cX4_healEveryCell 43 = .ok (.iinc 5 1, 3) := by decide +kernel
theorem dX4_healEveryCell_46 : decode cX4_healEveryCell 46 = .ok (.goto (-23), 3) := by decide +kernel
theorem dX4_healEveryCell_49 : decode cX4_healEveryCell 49 = .ok (.iinc 3 1, 3) := by decide +kernel
theorem dX4_healEveryCell_52 : decode cX4_healEveryCell 52 = .ok (.goto (-48), 3) := by decide +kernel
theorem dX4_healEveryCell_55 : decode cX4_healEveryCell 55 = .ok (.iload_n 2, 1) := by decide +kernel
theorem dX4_healEveryCell_56 : decode cX4_healEveryCell 56 = .ok (.ireturn, 1) := by decide +kernel
def b_X4_healEveryCell_23 (x1 : Int32) (x3 : Int32) (x4 : Int32) (rec : Int32 → Int32 → Mem → Int32 × Int32 × Mem) (v2 : Int32) (v5 : Int32) (N : Mem) : Int32 × Int32 × Mem :=
  if 2 ≤ v5 then (v2, v5, N)
  else zlet (f_X0_heal x4 v5 N) (fun q1 =>
  rec (v2 + q1.1) (v5 + 1) q1.2)
def l_X4_healEveryCell_23 (x1 : Int32) (x3 : Int32) (x4 : Int32) : Nat → Int32 → Int32 → Mem → Int32 × Int32 × Mem
  | 0, v2, v5, N => (v2, v5, N)
  | n + 1, v2, v5, N => b_X4_healEveryCell_23 x1 x3 x4 (l_X4_healEveryCell_23 x1 x3 x4 n) v2 v5 N
set_option maxRecDepth 100000 in
set_option maxHeartbeats 4000000 in
theorem kl_X4_healEveryCell_23 (q : ZQ) (x1 : Int32) (x3 : Int32) (x4 : Int32) {K : Int32 × Int32 × Mem → ZR} (hx : ∀ e : Int32 × Int32 × Mem, Zg (zgX q) mX4_healEveryCell 0 0 0 0 (K e) 49 [some (.inr 0), some (.inl x1), some (.inl e.1), some (.inl x3), some (.inl x4), some (.inl e.2.1)] [] e.2.2) :
    ∀ (n : Nat) (v2 : Int32) (v5 : Int32) (N : Mem), ((2 : Int32).toInt - (v5 : Int32).toInt).toNat < n → Zg (zgX q) mX4_healEveryCell 0 0 0 0 (zlet (l_X4_healEveryCell_23 x1 x3 x4 n v2 v5 N) K) 23 [some (.inr 0), some (.inl x1), some (.inl v2), some (.inl x3), some (.inl x4), some (.inl v5)] [] N := by
  intro n
  induction n with
  | zero => intro v2 v5 N hm; exact absurd hm (Nat.not_lt_zero _)
  | succ n ih =>
    intro v2 v5 N hm
    show Zg _ _ _ _ _ _ (zlet (b_X4_healEveryCell_23 x1 x3 x4 (l_X4_healEveryCell_23 x1 x3 x4 n) v2 v5 N) K) _ _ _ _
    unfold b_X4_healEveryCell_23
    refine zg_iload (x := v5) dX4_healEveryCell_23 rfl ?_
    refine zg_iconst (v := 2) dX4_healEveryCell_25 rfl ?_
    refine zg_icmpz (tgt := 49) dX4_healEveryCell_26 rfl rfl (fun c26 => ?_) (fun c26 => ?_)
    · refine zg_st (pc' := 49) (L' := [some (.inr 0), some (.inl x1), some (.inl v2), some (.inl x3), some (.inl x4), some (.inl v5)]) (S' := []) (M' := N) rfl rfl rfl rfl ?_
      refine zg_drop (L' := [some (.inr 0), some (.inl x1), some (.inl v2), some (.inl x3), some (.inl x4), some (.inl v5)]) ⟨rfl, rfl, rfl, rfl, rfl, rfl, trivial⟩ ?_
      exact hx (v2, v5, N)
    · refine zg_st (pc' := 29) (L' := [some (.inr 0), some (.inl x1), some (.inl v2), some (.inl x3), some (.inl x4), some (.inl v5)]) (S' := []) (M' := N) rfl rfl rfl rfl ?_
      refine zg_iload_n (x := v2) dX4_healEveryCell_29 rfl ?_
      refine zg_aload_n (x := 0) dX4_healEveryCell_30 rfl ?_
      refine zg_getf (v := .inr 1) dX4_healEveryCell_31 zf_X4_12 rfl rfl rfl ?_
      refine zg_iload (x := x4) dX4_healEveryCell_34 rfl ?_
      refine zg_iload (x := v5) dX4_healEveryCell_36 rfl ?_
      refine zg_cVIM (As := [.inl x4, .inl v5]) (S := [.inl v2]) dX4_healEveryCell_38 zk_X4_237 (k_X0_heal q x4 v5 N) rfl rfl ⟨by decide, by decide⟩ ⟨by decide, by decide⟩ rfl (Nat.le_of_ble_eq_true rfl) (fun q1 e_q1 => ?_)
      try dsimp only
      refine zg_st (pc' := 41) (L' := [some (.inr 0), some (.inl x1), some (.inl v2), some (.inl x3), some (.inl x4), some (.inl v5)]) (S' := [.inl q1.1, .inl v2]) (M' := q1.2) rfl rfl rfl rfl ?_
      refine zg_iadd dX4_healEveryCell_41 ?_
      refine zg_istore_n dX4_healEveryCell_42 (by decide) ?_
      refine zg_st (pc' := 43) (L' := [some (.inr 0), some (.inl x1), some (.inl (v2 + q1.1)), some (.inl x3), some (.inl x4), some (.inl v5)]) (S' := []) (M' := q1.2) rfl rfl rfl rfl ?_
      refine zg_iinc (v := (v5 + 1)) dX4_healEveryCell_43 rfl (by decide) rfl ?_
      refine zg_st (pc' := 46) (L' := [some (.inr 0), some (.inl x1), some (.inl (v2 + q1.1)), some (.inl x3), some (.inl x4), some (.inl (v5 + 1))]) (S' := []) (M' := q1.2) rfl rfl rfl rfl ?_
      refine zg_goto (tgt := 23) dX4_healEveryCell_46 rfl ?_
      refine zg_st (pc' := 23) (L' := [some (.inr 0), some (.inl x1), some (.inl (v2 + q1.1)), some (.inl x3), some (.inl x4), some (.inl (v5 + 1))]) (S' := []) (M' := q1.2) rfl rfl rfl rfl ?_
      refine zg_drop (L' := [some (.inr 0), some (.inl x1), some (.inl (v2 + q1.1)), some (.inl x3), some (.inl x4), some (.inl (v5 + 1))]) ⟨rfl, rfl, rfl, rfl, rfl, rfl, trivial⟩ ?_
      exact ih (v2 + q1.1) (v5 + 1) q1.2 (z_up c26 hm)
def b_X4_healEveryCell_4 (x1 : Int32) (rec : Int32 → Int32 → Mem → Int32 × Int32 × Mem) (v2 : Int32) (v3 : Int32) (N : Mem) : Int32 × Int32 × Mem :=
  if 2 ≤ v3 then (v2, v3, N)
  else zlet (l_X4_healEveryCell_23 x1 v3 (f_X3_placeOf x1 v3 N) 3 v2 0 N) (fun s2 =>
  rec s2.1 (v3 + 1) s2.2.2)
def l_X4_healEveryCell_4 (x1 : Int32) : Nat → Int32 → Int32 → Mem → Int32 × Int32 × Mem
  | 0, v2, v3, N => (v2, v3, N)
  | n + 1, v2, v3, N => b_X4_healEveryCell_4 x1 (l_X4_healEveryCell_4 x1 n) v2 v3 N
set_option maxRecDepth 100000 in
set_option maxHeartbeats 4000000 in
theorem kl_X4_healEveryCell_4 (q : ZQ) (x1 : Int32) {K : Int32 × Int32 × Mem → ZR} (hx : ∀ e : Int32 × Int32 × Mem, Zg (zgX q) mX4_healEveryCell 0 0 0 0 (K e) 55 [some (.inr 0), some (.inl x1), some (.inl e.1), some (.inl e.2.1), none, none] [] e.2.2) :
    ∀ (n : Nat) (v2 : Int32) (v3 : Int32) (N : Mem), ((2 : Int32).toInt - (v3 : Int32).toInt).toNat < n → Zg (zgX q) mX4_healEveryCell 0 0 0 0 (zlet (l_X4_healEveryCell_4 x1 n v2 v3 N) K) 4 [some (.inr 0), some (.inl x1), some (.inl v2), some (.inl v3), none, none] [] N := by
  intro n
  induction n with
  | zero => intro v2 v3 N hm; exact absurd hm (Nat.not_lt_zero _)
  | succ n ih =>
    intro v2 v3 N hm
    show Zg _ _ _ _ _ _ (zlet (b_X4_healEveryCell_4 x1 (l_X4_healEveryCell_4 x1 n) v2 v3 N) K) _ _ _ _
    unfold b_X4_healEveryCell_4
    refine zg_iload_n (x := v3) dX4_healEveryCell_4 rfl ?_
    refine zg_iconst (v := 2) dX4_healEveryCell_5 rfl ?_
    refine zg_icmpz (tgt := 55) dX4_healEveryCell_6 rfl rfl (fun c6 => ?_) (fun c6 => ?_)
    · refine zg_st (pc' := 55) (L' := [some (.inr 0), some (.inl x1), some (.inl v2), some (.inl v3), none, none]) (S' := []) (M' := N) rfl rfl rfl rfl ?_
      refine zg_drop (L' := [some (.inr 0), some (.inl x1), some (.inl v2), some (.inl v3), none, none]) ⟨rfl, rfl, rfl, rfl, trivial⟩ ?_
      exact hx (v2, v3, N)
    · refine zg_st (pc' := 9) (L' := [some (.inr 0), some (.inl x1), some (.inl v2), some (.inl v3), none, none]) (S' := []) (M' := N) rfl rfl rfl rfl ?_
      refine zg_aload_n (x := 0) dX4_healEveryCell_9 rfl ?_
      refine zg_getf (v := .inr 2) dX4_healEveryCell_10 zf_X4_19 rfl rfl rfl ?_
      refine zg_iload_n (x := x1) dX4_healEveryCell_13 rfl ?_
      refine zg_iload_n (x := v3) dX4_healEveryCell_14 rfl ?_
      refine zg_cV1 (As := [.inl x1, .inl v3]) (S := []) (v := (f_X3_placeOf x1 v3 N)) dX4_healEveryCell_15 zk_X4_209 (k_X3_placeOf q x1 v3 N) rfl rfl ⟨by decide, by decide⟩ ⟨by decide, by decide⟩ rfl (Nat.le_of_ble_eq_true rfl) ?_
      refine zg_st (pc' := 18) (L' := [some (.inr 0), some (.inl x1), some (.inl v2), some (.inl v3), none, none]) (S' := [.inl (f_X3_placeOf x1 v3 N)]) (M' := N) rfl rfl rfl rfl ?_
      refine zg_istore dX4_healEveryCell_18 (by decide) ?_
      refine zg_st (pc' := 20) (L' := [some (.inr 0), some (.inl x1), some (.inl v2), some (.inl v3), some (.inl (f_X3_placeOf x1 v3 N)), none]) (S' := []) (M' := N) rfl rfl rfl rfl ?_
      refine zg_iconst (v := 0) dX4_healEveryCell_20 rfl ?_
      refine zg_istore dX4_healEveryCell_21 (by decide) ?_
      refine zg_st (pc' := 23) (L' := [some (.inr 0), some (.inl x1), some (.inl v2), some (.inl v3), some (.inl (f_X3_placeOf x1 v3 N)), some (.inl 0)]) (S' := []) (M' := N) rfl rfl rfl rfl ?_
      refine zg_asc ?_
      refine zg_drop (L' := [some (.inr 0), some (.inl x1), some (.inl v2), some (.inl v3), some (.inl (f_X3_placeOf x1 v3 N)), some (.inl 0)]) ⟨rfl, rfl, rfl, rfl, rfl, rfl, trivial⟩ ?_
      refine kl_X4_healEveryCell_23 q x1 v3 (f_X3_placeOf x1 v3 N)  (fun s2 => ?_) 3 v2 0 N (by decide)
      try dsimp only [Sum.elim_inr]
      refine zg_st (pc' := 49) (L' := [some (.inr 0), some (.inl x1), some (.inl s2.1), some (.inl v3), some (.inl (f_X3_placeOf x1 v3 N)), some (.inl s2.2.1)]) (S' := []) (M' := s2.2.2) rfl rfl rfl rfl ?_
      refine zg_iinc (v := (v3 + 1)) dX4_healEveryCell_49 rfl (by decide) rfl ?_
      refine zg_st (pc' := 52) (L' := [some (.inr 0), some (.inl x1), some (.inl s2.1), some (.inl (v3 + 1)), some (.inl (f_X3_placeOf x1 v3 N)), some (.inl s2.2.1)]) (S' := []) (M' := s2.2.2) rfl rfl rfl rfl ?_
      refine zg_goto (tgt := 4) dX4_healEveryCell_52 rfl ?_
      refine zg_st (pc' := 4) (L' := [some (.inr 0), some (.inl x1), some (.inl s2.1), some (.inl (v3 + 1)), some (.inl (f_X3_placeOf x1 v3 N)), some (.inl s2.2.1)]) (S' := []) (M' := s2.2.2) rfl rfl rfl rfl ?_
      refine zg_drop (L' := [some (.inr 0), some (.inl x1), some (.inl s2.1), some (.inl (v3 + 1)), none, none]) ⟨rfl, rfl, rfl, rfl, trivial⟩ ?_
      exact ih s2.1 (v3 + 1) s2.2.2 (z_up c6 hm)
def f_X4_healEveryCell (p1 : Int32) (M : Mem) : (Int32 × Mem) :=
  zlet (l_X4_healEveryCell_4 p1 3 0 0 M) (fun s3 =>
  (s3.1, s3.2.2))
set_option maxRecDepth 100000 in
set_option maxHeartbeats 4000000 in
theorem k_X4_healEveryCell (q : ZQ) (p1 : Int32) (M : Mem) : Zc (zgX q) mX4_healEveryCell 0 0 [.inr 0, .inl p1] M (wIM (f_X4_healEveryCell p1 M)) := by
  refine Zc.of (by decide) zi_X4_healEveryCell.1 (Nat.le_of_ble_eq_true rfl) rfl ?_
  show Zg _ _ _ _ _ _ (zlet (f_X4_healEveryCell p1 M) wIM) _ _ _ _
  unfold f_X4_healEveryCell
  refine zg_iconst (v := 0) dX4_healEveryCell_0 rfl ?_
  refine zg_istore_n dX4_healEveryCell_1 (by decide) ?_
  refine zg_st (pc' := 2) (L' := [some (.inr 0), some (.inl p1), some (.inl 0), none, none, none]) (S' := []) (M' := M) rfl rfl rfl rfl ?_
  refine zg_iconst (v := 0) dX4_healEveryCell_2 rfl ?_
  refine zg_istore_n dX4_healEveryCell_3 (by decide) ?_
  refine zg_st (pc' := 4) (L' := [some (.inr 0), some (.inl p1), some (.inl 0), some (.inl 0), none, none]) (S' := []) (M' := M) rfl rfl rfl rfl ?_
  refine zg_asc ?_
  refine zg_drop (L' := [some (.inr 0), some (.inl p1), some (.inl 0), some (.inl 0), none, none]) ⟨rfl, rfl, rfl, rfl, trivial⟩ ?_
  refine kl_X4_healEveryCell_4 q p1  (fun s3 => ?_) 3 0 0 M (by decide)
  try dsimp only [Sum.elim_inr]
  refine zg_st (pc' := 55) (L' := [some (.inr 0), some (.inl p1), some (.inl s3.1), some (.inl s3.2.1), none, none]) (S' := []) (M' := s3.2.2) rfl rfl rfl rfl ?_
  refine zg_iload_n (x := s3.1) dX4_healEveryCell_55 rfl ?_
  exact zg_iret dX4_healEveryCell_56 rfl rfl ⟨by decide, by decide⟩ rfl
theorem dX4_scrubFile_0 : decode cX4_scrubFile 0 = .ok (.iload_n 1, 1) := by decide +kernel
theorem dX4_scrubFile_1 : decode cX4_scrubFile 1 = .ok (.invokestatic 93, 3) := by decide +kernel
theorem dX4_scrubFile_4 : decode cX4_scrubFile 4 = .ok (.istore_n 2, 1) := by decide +kernel
theorem dX4_scrubFile_5 : decode cX4_scrubFile 5 = .ok (.aload_n 0, 1) := by decide +kernel
theorem dX4_scrubFile_6 : decode cX4_scrubFile 6 = .ok (.iload_n 2, 1) := by decide +kernel
theorem dX4_scrubFile_7 : decode cX4_scrubFile 7 = .ok (.invokevirtual 194, 3) := by decide +kernel
theorem dX4_scrubFile_10 : decode cX4_scrubFile 10 = .ok (.ifCond .ne 5, 3) := by decide +kernel
theorem dX4_scrubFile_13 : decode cX4_scrubFile 13 = .ok (.iconst 0, 1) := by decide +kernel
theorem dX4_scrubFile_14 : decode cX4_scrubFile 14 = .ok (.ireturn, 1) := by decide +kernel
theorem dX4_scrubFile_15 : decode cX4_scrubFile 15 = .ok (.aload_n 0, 1) := by decide +kernel
theorem dX4_scrubFile_16 : decode cX4_scrubFile 16 = .ok (.iload_n 2, 1) := by decide +kernel
theorem dX4_scrubFile_17 : decode cX4_scrubFile 17 = .ok (.invokevirtual 197, 3) := by decide +kernel
theorem dX4_scrubFile_20 : decode cX4_scrubFile 20 = .ok (.istore_n 3, 1) := by decide +kernel
theorem dX4_scrubFile_21 : decode cX4_scrubFile 21 = .ok (.iconst 0, 1) := by decide +kernel
theorem dX4_scrubFile_22 : decode cX4_scrubFile 22 = .ok (.istore 4, 2) := by decide +kernel
theorem dX4_scrubFile_24 : decode cX4_scrubFile 24 = .ok (.iload 4, 2) := by decide +kernel
theorem dX4_scrubFile_26 : decode cX4_scrubFile 26 = .ok (.bipush 12, 2) := by decide +kernel
theorem dX4_scrubFile_28 : decode cX4_scrubFile 28 = .ok (.if_icmp .ge 35, 3) := by decide +kernel
theorem dX4_scrubFile_31 : decode cX4_scrubFile 31 = .ok (.iload_n 1, 1) := by decide +kernel
theorem dX4_scrubFile_32 : decode cX4_scrubFile 32 = .ok (.iload 4, 2) := by decide +kernel
theorem dX4_scrubFile_34 : decode cX4_scrubFile 34 = .ok (.invokestatic 66, 3) := by decide +kernel
theorem dX4_scrubFile_37 : decode cX4_scrubFile 37 = .ok (.istore 5, 2) := by decide +kernel
theorem dX4_scrubFile_39 : decode cX4_scrubFile 39 = .ok (.aload_n 0, 1) := by decide +kernel
theorem dX4_scrubFile_40 : decode cX4_scrubFile 40 = .ok (.iload 5, 2) := by decide +kernel
theorem dX4_scrubFile_42 : decode cX4_scrubFile 42 = .ok (.invokevirtual 194, 3) := by decide +kernel
theorem dX4_scrubFile_45 : decode cX4_scrubFile 45 = .ok (.ifCond .eq 12, 3) := by decide +kernel
theorem dX4_scrubFile_48 : decode cX4_scrubFile 48 = .ok (.iload_n 3, 1) := by decide +kernel
theorem dX4_scrubFile_49 : decode cX4_scrubFile 49 = .ok (.aload_n 0, 1) := by decide +kernel
theorem dX4_scrubFile_50 : decode cX4_scrubFile 50 = .ok (.iload 5, 2) := by decide +kernel
theorem dX4_scrubFile_52 : decode cX4_scrubFile 52 = .ok (.invokevirtual 197, 3) := by decide +kernel
theorem dX4_scrubFile_55 : decode cX4_scrubFile 55 = .ok (.iadd, 1) := by decide +kernel
theorem dX4_scrubFile_56 : decode cX4_scrubFile 56 = .ok (.istore_n 3, 1) := by decide +kernel
theorem dX4_scrubFile_57 : decode cX4_scrubFile 57 = .ok (.iinc 4 1, 3) := by decide +kernel
theorem dX4_scrubFile_60 : decode cX4_scrubFile 60 = .ok (.goto (-36), 3) := by decide +kernel
theorem dX4_scrubFile_63 : decode cX4_scrubFile 63 = .ok (.iload_n 3, 1) := by decide +kernel
theorem dX4_scrubFile_64 : decode cX4_scrubFile 64 = .ok (.ireturn, 1) := by decide +kernel
def b_X4_scrubFile_24 (x1 : Int32) (rec : Int32 → Int32 → Mem → Int32 × Int32 × Mem) (v3 : Int32) (v4 : Int32) (N : Mem) : Int32 × Int32 × Mem :=
  if 12 ≤ v4 then (v3, v4, N)
  else if (f_X4_canFetch (f_X4_blockPointer x1 v4) N) then zlet (f_X4_healEveryCell (f_X4_blockPointer x1 v4) N) (fun q2 =>
    rec (v3 + q2.1) (v4 + 1) q2.2)
  else rec v3 (v4 + 1) N
def l_X4_scrubFile_24 (x1 : Int32) : Nat → Int32 → Int32 → Mem → Int32 × Int32 × Mem
  | 0, v3, v4, N => (v3, v4, N)
  | n + 1, v3, v4, N => b_X4_scrubFile_24 x1 (l_X4_scrubFile_24 x1 n) v3 v4 N
set_option maxRecDepth 100000 in
set_option maxHeartbeats 4000000 in
theorem kl_X4_scrubFile_24 (q : ZQ) (x1 : Int32) {K : Int32 × Int32 × Mem → ZR} (hx : ∀ e : Int32 × Int32 × Mem, Zg (zgX q) mX4_scrubFile 0 0 0 0 (K e) 63 [some (.inr 0), some (.inl x1), none, some (.inl e.1), some (.inl e.2.1), none] [] e.2.2) :
    ∀ (n : Nat) (v3 : Int32) (v4 : Int32) (N : Mem), ((12 : Int32).toInt - (v4 : Int32).toInt).toNat < n → Zg (zgX q) mX4_scrubFile 0 0 0 0 (zlet (l_X4_scrubFile_24 x1 n v3 v4 N) K) 24 [some (.inr 0), some (.inl x1), none, some (.inl v3), some (.inl v4), none] [] N := by
  intro n
  induction n with
  | zero => intro v3 v4 N hm; exact absurd hm (Nat.not_lt_zero _)
  | succ n ih =>
    intro v3 v4 N hm
    show Zg _ _ _ _ _ _ (zlet (b_X4_scrubFile_24 x1 (l_X4_scrubFile_24 x1 n) v3 v4 N) K) _ _ _ _
    unfold b_X4_scrubFile_24
    refine zg_iload (x := v4) dX4_scrubFile_24 rfl ?_
    refine zg_bipush (v := 12) dX4_scrubFile_26 rfl ?_
    refine zg_icmpz (tgt := 63) dX4_scrubFile_28 rfl rfl (fun c28 => ?_) (fun c28 => ?_)
    · refine zg_st (pc' := 63) (L' := [some (.inr 0), some (.inl x1), none, some (.inl v3), some (.inl v4), none]) (S' := []) (M' := N) rfl rfl rfl rfl ?_
      refine zg_drop (L' := [some (.inr 0), some (.inl x1), none, some (.inl v3), some (.inl v4), none]) ⟨rfl, rfl, rfl, rfl, trivial⟩ ?_
      exact hx (v3, v4, N)
    · refine zg_st (pc' := 31) (L' := [some (.inr 0), some (.inl x1), none, some (.inl v3), some (.inl v4), none]) (S' := []) (M' := N) rfl rfl rfl rfl ?_
      refine zg_iload_n (x := x1) dX4_scrubFile_31 rfl ?_
      refine zg_iload (x := v4) dX4_scrubFile_32 rfl ?_
      refine zg_cS1 (As := [.inl x1, .inl v4]) (S := []) (v := (f_X4_blockPointer x1 v4)) dX4_scrubFile_34 zk_X4_66 (k_X4_blockPointer q x1 v4 N) rfl ⟨by decide, by decide⟩ ⟨by decide, by decide⟩ rfl (Nat.le_of_ble_eq_true rfl) ?_
      refine zg_st (pc' := 37) (L' := [some (.inr 0), some (.inl x1), none, some (.inl v3), some (.inl v4), none]) (S' := [.inl (f_X4_blockPointer x1 v4)]) (M' := N) rfl rfl rfl rfl ?_
      refine zg_istore dX4_scrubFile_37 (by decide) ?_
      refine zg_st (pc' := 39) (L' := [some (.inr 0), some (.inl x1), none, some (.inl v3), some (.inl v4), some (.inl (f_X4_blockPointer x1 v4))]) (S' := []) (M' := N) rfl rfl rfl rfl ?_
      refine zg_aload_n (x := 0) dX4_scrubFile_39 rfl ?_
      refine zg_iload (x := (f_X4_blockPointer x1 v4)) dX4_scrubFile_40 rfl ?_
      refine zg_cV1 (As := [.inl (f_X4_blockPointer x1 v4)]) (S := []) (v := bI ((f_X4_canFetch (f_X4_blockPointer x1 v4) N))) dX4_scrubFile_42 zk_X4_194 (k_X4_canFetch q (f_X4_blockPointer x1 v4) N) rfl rfl ⟨by decide, by decide⟩ ⟨by decide, by decide⟩ rfl (Nat.le_of_ble_eq_true rfl) ?_
      refine zg_st (pc' := 45) (L' := [some (.inr 0), some (.inl x1), none, some (.inl v3), some (.inl v4), some (.inl (f_X4_blockPointer x1 v4))]) (S' := [.inl (bI ((f_X4_canFetch (f_X4_blockPointer x1 v4) N)))]) (M' := N) rfl rfl rfl rfl ?_
      refine zg_ifbe (tgt := 57) dX4_scrubFile_45 rfl (fun c45 => ?_) (fun c45 => ?_)
      · refine zg_st (pc' := 48) (L' := [some (.inr 0), some (.inl x1), none, some (.inl v3), some (.inl v4), some (.inl (f_X4_blockPointer x1 v4))]) (S' := []) (M' := N) rfl rfl rfl rfl ?_
        refine zg_iload_n (x := v3) dX4_scrubFile_48 rfl ?_
        refine zg_aload_n (x := 0) dX4_scrubFile_49 rfl ?_
        refine zg_iload (x := (f_X4_blockPointer x1 v4)) dX4_scrubFile_50 rfl ?_
        refine zg_cVIM (As := [.inl (f_X4_blockPointer x1 v4)]) (S := [.inl v3]) dX4_scrubFile_52 zk_X4_197 (k_X4_healEveryCell q (f_X4_blockPointer x1 v4) N) rfl rfl ⟨by decide, by decide⟩ ⟨by decide, by decide⟩ rfl (Nat.le_of_ble_eq_true rfl) (fun q2 e_q2 => ?_)
        try dsimp only
        refine zg_st (pc' := 55) (L' := [some (.inr 0), some (.inl x1), none, some (.inl v3), some (.inl v4), some (.inl (f_X4_blockPointer x1 v4))]) (S' := [.inl q2.1, .inl v3]) (M' := q2.2) rfl rfl rfl rfl ?_
        refine zg_iadd dX4_scrubFile_55 ?_
        refine zg_istore_n dX4_scrubFile_56 (by decide) ?_
        refine zg_st (pc' := 57) (L' := [some (.inr 0), some (.inl x1), none, some (.inl (v3 + q2.1)), some (.inl v4), some (.inl (f_X4_blockPointer x1 v4))]) (S' := []) (M' := q2.2) rfl rfl rfl rfl ?_
        refine zg_iinc (v := (v4 + 1)) dX4_scrubFile_57 rfl (by decide) rfl ?_
        refine zg_st (pc' := 60) (L' := [some (.inr 0), some (.inl x1), none, some (.inl (v3 + q2.1)), some (.inl (v4 + 1)), some (.inl (f_X4_blockPointer x1 v4))]) (S' := []) (M' := q2.2) rfl rfl rfl rfl ?_
        refine zg_goto (tgt := 24) dX4_scrubFile_60 rfl ?_
        refine zg_st (pc' := 24) (L' := [some (.inr 0), some (.inl x1), none, some (.inl (v3 + q2.1)), some (.inl (v4 + 1)), some (.inl (f_X4_blockPointer x1 v4))]) (S' := []) (M' := q2.2) rfl rfl rfl rfl ?_
        refine zg_drop (L' := [some (.inr 0), some (.inl x1), none, some (.inl (v3 + q2.1)), some (.inl (v4 + 1)), none]) ⟨rfl, rfl, rfl, rfl, trivial⟩ ?_
        exact ih (v3 + q2.1) (v4 + 1) q2.2 (z_up c28 hm)
      · refine zg_st (pc' := 57) (L' := [some (.inr 0), some (.inl x1), none, some (.inl v3), some (.inl v4), some (.inl (f_X4_blockPointer x1 v4))]) (S' := []) (M' := N) rfl rfl rfl rfl ?_
        refine zg_iinc (v := (v4 + 1)) dX4_scrubFile_57 rfl (by decide) rfl ?_
        refine zg_st (pc' := 60) (L' := [some (.inr 0), some (.inl x1), none, some (.inl v3), some (.inl (v4 + 1)), some (.inl (f_X4_blockPointer x1 v4))]) (S' := []) (M' := N) rfl rfl rfl rfl ?_
        refine zg_goto (tgt := 24) dX4_scrubFile_60 rfl ?_
        refine zg_st (pc' := 24) (L' := [some (.inr 0), some (.inl x1), none, some (.inl v3), some (.inl (v4 + 1)), some (.inl (f_X4_blockPointer x1 v4))]) (S' := []) (M' := N) rfl rfl rfl rfl ?_
        refine zg_drop (L' := [some (.inr 0), some (.inl x1), none, some (.inl v3), some (.inl (v4 + 1)), none]) ⟨rfl, rfl, rfl, rfl, trivial⟩ ?_
        exact ih v3 (v4 + 1) N (z_up c28 hm)
def f_X4_scrubFile (p1 : Int32) (M : Mem) : (Int32 × Mem) :=
  if (f_X4_canFetch (f_X4_filePointer p1) M) then zlet (f_X4_healEveryCell (f_X4_filePointer p1) M) (fun q1 =>
    zlet (l_X4_scrubFile_24 p1 13 q1.1 0 q1.2) (fun s3 =>
      (s3.1, s3.2.2)))
  else (0, M)
set_option maxRecDepth 100000 in
set_option maxHeartbeats 4000000 in
theorem k_X4_scrubFile (q : ZQ) (p1 : Int32) (M : Mem) : Zc (zgX q) mX4_scrubFile 0 0 [.inr 0, .inl p1] M (wIM (f_X4_scrubFile p1 M)) := by
  refine Zc.of (by decide) zi_X4_scrubFile.1 (Nat.le_of_ble_eq_true rfl) rfl ?_
  show Zg _ _ _ _ _ _ (zlet (f_X4_scrubFile p1 M) wIM) _ _ _ _
  unfold f_X4_scrubFile
  refine zg_iload_n (x := p1) dX4_scrubFile_0 rfl ?_
  refine zg_cS1 (As := [.inl p1]) (S := []) (v := (f_X4_filePointer p1)) dX4_scrubFile_1 zk_X4_93 (k_X4_filePointer q p1 M) rfl ⟨by decide, by decide⟩ ⟨by decide, by decide⟩ rfl (Nat.le_of_ble_eq_true rfl) ?_
  refine zg_st (pc' := 4) (L' := [some (.inr 0), some (.inl p1), none, none, none, none]) (S' := [.inl (f_X4_filePointer p1)]) (M' := M) rfl rfl rfl rfl ?_
  refine zg_istore_n dX4_scrubFile_4 (by decide) ?_
  refine zg_st (pc' := 5) (L' := [some (.inr 0), some (.inl p1), some (.inl (f_X4_filePointer p1)), none, none, none]) (S' := []) (M' := M) rfl rfl rfl rfl ?_
  refine zg_aload_n (x := 0) dX4_scrubFile_5 rfl ?_
  refine zg_iload_n (x := (f_X4_filePointer p1)) dX4_scrubFile_6 rfl ?_
  refine zg_cV1 (As := [.inl (f_X4_filePointer p1)]) (S := []) (v := bI ((f_X4_canFetch (f_X4_filePointer p1) M))) dX4_scrubFile_7 zk_X4_194 (k_X4_canFetch q (f_X4_filePointer p1) M) rfl rfl ⟨by decide, by decide⟩ ⟨by decide, by decide⟩ rfl (Nat.le_of_ble_eq_true rfl) ?_
  refine zg_st (pc' := 10) (L' := [some (.inr 0), some (.inl p1), some (.inl (f_X4_filePointer p1)), none, none, none]) (S' := [.inl (bI ((f_X4_canFetch (f_X4_filePointer p1) M)))]) (M' := M) rfl rfl rfl rfl ?_
  refine zg_ifbn (tgt := 15) dX4_scrubFile_10 rfl (fun c10 => ?_) (fun c10 => ?_)
  · refine zg_st (pc' := 15) (L' := [some (.inr 0), some (.inl p1), some (.inl (f_X4_filePointer p1)), none, none, none]) (S' := []) (M' := M) rfl rfl rfl rfl ?_
    refine zg_aload_n (x := 0) dX4_scrubFile_15 rfl ?_
    refine zg_iload_n (x := (f_X4_filePointer p1)) dX4_scrubFile_16 rfl ?_
    refine zg_cVIM (As := [.inl (f_X4_filePointer p1)]) (S := []) dX4_scrubFile_17 zk_X4_197 (k_X4_healEveryCell q (f_X4_filePointer p1) M) rfl rfl ⟨by decide, by decide⟩ ⟨by decide, by decide⟩ rfl (Nat.le_of_ble_eq_true rfl) (fun q1 e_q1 => ?_)
    try dsimp only
    refine zg_st (pc' := 20) (L' := [some (.inr 0), some (.inl p1), some (.inl (f_X4_filePointer p1)), none, none, none]) (S' := [.inl q1.1]) (M' := q1.2) rfl rfl rfl rfl ?_
    refine zg_istore_n dX4_scrubFile_20 (by decide) ?_
    refine zg_st (pc' := 21) (L' := [some (.inr 0), some (.inl p1), some (.inl (f_X4_filePointer p1)), some (.inl q1.1), none, none]) (S' := []) (M' := q1.2) rfl rfl rfl rfl ?_
    refine zg_iconst (v := 0) dX4_scrubFile_21 rfl ?_
    refine zg_istore dX4_scrubFile_22 (by decide) ?_
    refine zg_st (pc' := 24) (L' := [some (.inr 0), some (.inl p1), some (.inl (f_X4_filePointer p1)), some (.inl q1.1), some (.inl 0), none]) (S' := []) (M' := q1.2) rfl rfl rfl rfl ?_
    refine zg_asc ?_
    refine zg_drop (L' := [some (.inr 0), some (.inl p1), none, some (.inl q1.1), some (.inl 0), none]) ⟨rfl, rfl, rfl, rfl, trivial⟩ ?_
    refine kl_X4_scrubFile_24 q p1  (fun s3 => ?_) 13 q1.1 0 q1.2 (by decide)
    try dsimp only [Sum.elim_inr]
    refine zg_st (pc' := 63) (L' := [some (.inr 0), some (.inl p1), none, some (.inl s3.1), some (.inl s3.2.1), none]) (S' := []) (M' := s3.2.2) rfl rfl rfl rfl ?_
    refine zg_iload_n (x := s3.1) dX4_scrubFile_63 rfl ?_
    exact zg_iret dX4_scrubFile_64 rfl rfl ⟨by decide, by decide⟩ rfl
  · refine zg_st (pc' := 13) (L' := [some (.inr 0), some (.inl p1), some (.inl (f_X4_filePointer p1)), none, none, none]) (S' := []) (M' := M) rfl rfl rfl rfl ?_
    refine zg_iconst (v := 0) dX4_scrubFile_13 rfl ?_
    exact zg_iret dX4_scrubFile_14 rfl rfl ⟨by decide, by decide⟩ rfl
