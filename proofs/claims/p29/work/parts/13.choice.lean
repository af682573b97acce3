theorem dX1_begin_0 : decode cX1_begin 0 = .ok (.aload_n 0, 1) := by decide +kernel
theorem dX1_begin_1 : decode cX1_begin 1 = .ok (.getfield 18, 3) := by decide +kernel
theorem dX1_begin_4 : decode cX1_begin 4 = .ok (.iconst (-1), 1) := by decide +kernel
theorem dX1_begin_5 : decode cX1_begin 5 = .ok (.invokestatic 24, 3) := by decide +kernel
theorem dX1_begin_8 : decode cX1_begin 8 = .ok (.aload_n 0, 1) := by decide +kernel
theorem dX1_begin_9 : decode cX1_begin 9 = .ok (.getfield 21, 3) := by decide +kernel
theorem dX1_begin_12 : decode cX1_begin 12 = .ok (.iconst (-1), 1) := by decide +kernel
theorem dX1_begin_13 : decode cX1_begin 13 = .ok (.invokestatic 24, 3) := by decide +kernel
theorem dX1_begin_16 : decode cX1_begin 16 = .ok (.aload_n 0, 1) := by decide +kernel
theorem dX1_begin_17 : decode cX1_begin 17 = .ok (.getfield 15, 3) := by decide +kernel
theorem dX1_begin_20 : decode cX1_begin 20 = .ok (.iconst 0, 1) := by decide +kernel
theorem dX1_begin_21 : decode cX1_begin 21 = .ok (.invokestatic 24, 3) := by decide +kernel
theorem dX1_begin_24 : decode cX1_begin 24 = .ok (.iconst 0, 1) := by decide +kernel
theorem dX1_begin_25 : decode cX1_begin 25 = .ok (.istore_n 2, 1) := by decide +kernel
theorem dX1_begin_26 : decode cX1_begin 26 = .ok (.iload_n 2, 1) := by decide +kernel
theorem dX1_begin_27 : decode cX1_begin 27 = .ok (.iconst 3, 1) := by decide +kernel
theorem dX1_begin_28 : decode cX1_begin 28 = .ok (.if_icmp .ge 20, 3) := by decide +kernel
theorem dX1_begin_31 : decode cX1_begin 31 = .ok (.aload_n 0, 1) := by decide +kernel
theorem dX1_begin_32 : decode cX1_begin 32 = .ok (.getfield 9, 3) := by decide +kernel
theorem dX1_begin_35 : decode cX1_begin 35 = .ok (.iload_n 2, 1) := by decide +kernel
theorem dX1_begin_36 : decode cX1_begin 36 = .ok (.aload_n 1, 1) := by decide +kernel
theorem dX1_begin_37 : decode cX1_begin 37 = .ok (.iload_n 2, 1) := by decide +kernel
theorem dX1_begin_38 : decode cX1_begin 38 = .ok (.invokevirtual 30, 3) := by decide +kernel
theorem dX1_begin_41 : decode cX1_begin 41 = .ok (.iastore, 1) := by decide +kernel
theorem dX1_begin_42 : decode cX1_begin 42 = .ok (.iinc 2 1, 3) := by decide +kernel
theorem dX1_begin_45 : decode cX1_begin 45 = .ok (.goto (-19), 3) := by decide +kernel
theorem dX1_begin_48 : decode cX1_begin 48 = .ok (.return_, 1) := by decide +kernel
def b_X1_begin_26 (rec : Int32 → Mem → Int32 × Mem) (v2 : Int32) (N : Mem) : Int32 × Mem :=
  if 3 ≤ v2 then (v2, N)
  else rec (v2 + 1) (mup N 16 v2.toNatClampNeg (f_X0_countFree v2 N))
def l_X1_begin_26 : Nat → Int32 → Mem → Int32 × Mem
  | 0, v2, N => (v2, N)
  | n + 1, v2, N => b_X1_begin_26 (l_X1_begin_26 n) v2 N
set_option maxRecDepth 100000 in
set_option maxHeartbeats 4000000 in
theorem kl_X1_begin_26 (q : ZQ) {K : Int32 × Mem → ZR} (hx : ∀ e : Int32 × Mem, (0 : Int) ≤ e.1.toInt → Zg (zgX q) mX1_begin 0 0 0 0 (K e) 48 [some (.inr 4), some (.inr 1), some (.inl e.1)] [] e.2) :
    ∀ (n : Nat) (v2 : Int32) (N : Mem), (0 : Int) ≤ v2.toInt → ((3 : Int32).toInt - (v2 : Int32).toInt).toNat < n → Zg (zgX q) mX1_begin 0 0 0 0 (zlet (l_X1_begin_26 n v2 N) K) 26 [some (.inr 4), some (.inr 1), some (.inl v2)] [] N := by
  intro n
  induction n with
  | zero => intro v2 N hI hm; exact absurd hm (Nat.not_lt_zero _)
  | succ n ih =>
    intro v2 N hI hm
    show Zg _ _ _ _ _ _ (zlet (b_X1_begin_26 (l_X1_begin_26 n) v2 N) K) _ _ _ _
    unfold b_X1_begin_26
    refine zg_iload_n (x := v2) dX1_begin_26 rfl ?_
    refine zg_iconst (v := 3) dX1_begin_27 rfl ?_
    refine zg_icmpz (tgt := 48) dX1_begin_28 rfl rfl (fun c28 => ?_) (fun c28 => ?_)
    · refine zg_st (pc' := 48) (L' := [some (.inr 4), some (.inr 1), some (.inl v2)]) (S' := []) (M' := N) rfl rfl rfl rfl ?_
      refine zg_drop (L' := [some (.inr 4), some (.inr 1), some (.inl v2)]) ⟨rfl, rfl, rfl, trivial⟩ ?_
      exact hx (v2, N) hI
    · refine zg_st (pc' := 31) (L' := [some (.inr 4), some (.inr 1), some (.inl v2)]) (S' := []) (M' := N) rfl rfl rfl rfl ?_
      refine zg_aload_n (x := 4) dX1_begin_31 rfl ?_
      refine zg_getf (v := .inr 16) dX1_begin_32 zf_X1_9 rfl rfl rfl ?_
      refine zg_iload_n (x := v2) dX1_begin_35 rfl ?_
      refine zg_aload_n (x := 1) dX1_begin_36 rfl ?_
      refine zg_iload_n (x := v2) dX1_begin_37 rfl ?_
      refine zg_cV1 (As := [.inl v2]) (S := [.inl v2, .inr 16]) (v := (f_X0_countFree v2 N)) dX1_begin_38 zk_X1_30 (k_X0_countFree q v2 N) rfl rfl ⟨by decide, by decide⟩ ⟨by decide, by decide⟩ rfl (Nat.le_of_ble_eq_true rfl) ?_
      refine zg_st (pc' := 41) (L' := [some (.inr 4), some (.inr 1), some (.inl v2)]) (S' := [.inl (f_X0_countFree v2 N), .inl v2, .inr 16]) (M' := N) rfl rfl rfl rfl ?_
      refine zg_iast dX1_begin_41 rfl (by simp only [q_isFile, q_isBlock, q_isBlockOfFile, q_isMirror, q_isSideOfMirror, q_isCell, q_isPlaceNumber, q_isCellOnSide, q_isPointer, q_isBlockPointer, vp_in_iff, Int32.lt_iff_toInt_lt, Int32.le_iff_toInt_le, Int32.reduceToInt] at c28 hI ⊢; omega) ?_
      refine zg_iinc (v := (v2 + 1)) dX1_begin_42 rfl (by decide) rfl ?_
      refine zg_st (pc' := 45) (L' := [some (.inr 4), some (.inr 1), some (.inl (v2 + 1))]) (S' := []) (M' := (mup N 16 v2.toNatClampNeg (f_X0_countFree v2 N))) rfl rfl rfl rfl ?_
      refine zg_goto (tgt := 26) dX1_begin_45 rfl ?_
      refine zg_st (pc' := 26) (L' := [some (.inr 4), some (.inr 1), some (.inl (v2 + 1))]) (S' := []) (M' := (mup N 16 v2.toNatClampNeg (f_X0_countFree v2 N))) rfl rfl rfl rfl ?_
      refine zg_drop (L' := [some (.inr 4), some (.inr 1), some (.inl (v2 + 1))]) ⟨rfl, rfl, rfl, trivial⟩ ?_
      exact ih (v2 + 1) (mup N 16 v2.toNatClampNeg (f_X0_countFree v2 N)) (z_ge0 c28 hI) (z_up c28 hm)
def f_X1_begin (M : Mem) : Mem :=
  zlet (f_J7_fill_53178_18 (-1) M) (fun N1 =>
  zlet (f_J7_fill_53178_19 (-1) N1) (fun N2 =>
    zlet (f_J7_fill_53178_17 0 N2) (fun N3 =>
      zlet (l_X1_begin_26 4 0 N3) (fun s4 =>
        s4.2))))
set_option maxRecDepth 100000 in
set_option maxHeartbeats 4000000 in
theorem k_X1_begin (q : ZQ) (M : Mem) : Zc (zgX q) mX1_begin 0 0 [.inr 4, .inr 1] M (wV (f_X1_begin M)) := by
  refine Zc.of (by decide) zi_X1_begin.1 (Nat.le_of_ble_eq_true rfl) rfl ?_
  show Zg _ _ _ _ _ _ (zlet (f_X1_begin M) wV) _ _ _ _
  unfold f_X1_begin
  refine zg_aload_n (x := 4) dX1_begin_0 rfl ?_
  refine zg_getf (v := .inr 18) dX1_begin_1 zf_X1_18 rfl rfl rfl ?_
  refine zg_iconst (v := (-1)) dX1_begin_4 rfl ?_
  refine zg_cSV (As := [.inr 18, .inl (-1)]) (S := []) dX1_begin_5 zk_X1_24 (k_J7_fill_53178_18 q (-1) M) rfl ⟨by decide, by decide⟩ ⟨by decide, by decide⟩ rfl (Nat.le_of_ble_eq_true rfl) (fun N1 e_N1 => ?_)
  try dsimp only
  refine zg_st (pc' := 8) (L' := [some (.inr 4), some (.inr 1), none]) (S' := []) (M' := N1) rfl rfl rfl rfl ?_
  refine zg_aload_n (x := 4) dX1_begin_8 rfl ?_
  refine zg_getf (v := .inr 19) dX1_begin_9 zf_X1_21 rfl rfl rfl ?_
  refine zg_iconst (v := (-1)) dX1_begin_12 rfl ?_
  refine zg_cSV (As := [.inr 19, .inl (-1)]) (S := []) dX1_begin_13 zk_X1_24 (k_J7_fill_53178_19 q (-1) N1) rfl ⟨by decide, by decide⟩ ⟨by decide, by decide⟩ rfl (Nat.le_of_ble_eq_true rfl) (fun N2 e_N2 => ?_)
  try dsimp only
  refine zg_st (pc' := 16) (L' := [some (.inr 4), some (.inr 1), none]) (S' := []) (M' := N2) rfl rfl rfl rfl ?_
  refine zg_aload_n (x := 4) dX1_begin_16 rfl ?_
  refine zg_getf (v := .inr 17) dX1_begin_17 zf_X1_15 rfl rfl rfl ?_
  refine zg_iconst (v := 0) dX1_begin_20 rfl ?_
  refine zg_cSV (As := [.inr 17, .inl 0]) (S := []) dX1_begin_21 zk_X1_24 (k_J7_fill_53178_17 q 0 N2) rfl ⟨by decide, by decide⟩ ⟨by decide, by decide⟩ rfl (Nat.le_of_ble_eq_true rfl) (fun N3 e_N3 => ?_)
  try dsimp only
  refine zg_st (pc' := 24) (L' := [some (.inr 4), some (.inr 1), none]) (S' := []) (M' := N3) rfl rfl rfl rfl ?_
  refine zg_iconst (v := 0) dX1_begin_24 rfl ?_
  refine zg_istore_n dX1_begin_25 (by decide) ?_
  refine zg_st (pc' := 26) (L' := [some (.inr 4), some (.inr 1), some (.inl 0)]) (S' := []) (M' := N3) rfl rfl rfl rfl ?_
  refine zg_asc ?_
  refine zg_drop (L' := [some (.inr 4), some (.inr 1), some (.inl 0)]) ⟨rfl, rfl, rfl, trivial⟩ ?_
  refine kl_X1_begin_26 q  (fun s4 hI_s4 => ?_) 4 0 N3 (by decide) (by decide)
  try dsimp only [Sum.elim_inr]
  refine zg_st (pc' := 48) (L' := [some (.inr 4), some (.inr 1), some (.inl s4.1)]) (S' := []) (M' := s4.2) rfl rfl rfl rfl ?_
  exact zg_vret dX1_begin_48 rfl ⟨by decide, by decide⟩ rfl
theorem dX1_roomiestBeside_0 : decode cX1_roomiestBeside 0 = .ok (.iconst (-1), 1) := by decide +kernel
theorem dX1_roomiestBeside_1 : decode cX1_roomiestBeside 1 = .ok (.istore_n 2, 1) := by decide +kernel
theorem dX1_roomiestBeside_2 : decode cX1_roomiestBeside 2 = .ok (.iconst 0, 1) := by decide +kernel
theorem dX1_roomiestBeside_3 : decode cX1_roomiestBeside 3 = .ok (.istore_n 3, 1) := by decide +kernel
theorem dX1_roomiestBeside_4 : decode cX1_roomiestBeside 4 = .ok (.iconst 0, 1) := by decide +kernel
theorem dX1_roomiestBeside_5 : decode cX1_roomiestBeside 5 = .ok (.istore 4, 2) := by decide +kernel
theorem dX1_roomiestBeside_7 : decode cX1_roomiestBeside 7 = .ok (.iload 4, 2) := by decide +kernel
theorem dX1_roomiestBeside_9 : decode cX1_roomiestBeside 9 = .ok (.iconst 3, 1) := by decide +kernel
theorem dX1_roomiestBeside_10 : decode cX1_roomiestBeside 10 = .ok (.if_icmp .ge 37, 3) := by decide +kernel
theorem dX1_roomiestBeside_13 : decode cX1_roomiestBeside 13 = .ok (.iload 4, 2) := by decide +kernel
theorem dX1_roomiestBeside_15 : decode cX1_roomiestBeside 15 = .ok (.iload_n 1, 1) := by decide +kernel
theorem dX1_roomiestBeside_16 : decode cX1_roomiestBeside 16 = .ok (.if_icmp .eq 25, 3) := by decide +kernel
theorem dX1_roomiestBeside_19 : decode cX1_roomiestBeside 19 = .ok (.aload_n 0, 1) := by decide +kernel
theorem dX1_roomiestBeside_20 : decode cX1_roomiestBeside 20 = .ok (.getfield 9, 3) := by decide +kernel
theorem dX1_roomiestBeside_23 : decode cX1_roomiestBeside 23 = .ok (.iload 4, 2) := by decide +kernel
theorem dX1_roomiestBeside_25 : decode cX1_roomiestBeside 25 = .ok (.iaload, 1) := by decide +kernel
theorem dX1_roomiestBeside_26 : decode cX1_roomiestBeside 26 = .ok (.iload_n 3, 1) := by decide +kernel
theorem dX1_roomiestBeside_27 : decode cX1_roomiestBeside 27 = .ok (.if_icmp .le 14, 3) := by decide +kernel
theorem dX1_roomiestBeside_30 : decode cX1_roomiestBeside 30 = .ok (.iload 4, 2) := by decide +kernel
theorem dX1_roomiestBeside_32 : decode cX1_roomiestBeside 32 = .ok (.istore_n 2, 1) := by decide +kernel
theorem dX1_roomiestBeside_33 : decode cX1_roomiestBeside 33 = .ok (.aload_n 0, 1) := by decide +kernel
theorem dX1_roomiestBeside_34 : decode cX1_roomiestBeside 34 = .ok (.getfield 9, 3) := by decide +kernel
theorem dX1_roomiestBeside_37 : decode cX1_roomiestBeside 37 = .ok (.iload 4, 2) := by decide +kernel
theorem dX1_roomiestBeside_39 : decode cX1_roomiestBeside 39 = .ok (.iaload, 1) := by decide +kernel
theorem dX1_roomiestBeside_40 : decode cX1_roomiestBeside 40 = .ok (.istore_n 3, 1) := by decide +kernel
theorem dX1_roomiestBeside_41 : decode cX1_roomiestBeside 41 = .ok (.iinc 4 1, 3) := by decide +kernel
theorem dX1_roomiestBeside_44 : decode cX1_roomiestBeside 44 = .ok (.goto (-37), 3) := by decide +kernel
theorem dX1_roomiestBeside_47 : decode cX1_roomiestBeside 47 = .ok (.iload_n 2, 1) := by decide +kernel
theorem dX1_roomiestBeside_48 : decode cX1_roomiestBeside 48 = .ok (.ireturn, 1) := by decide +kernel
def b_X1_roomiestBeside_7 (x1 : Int32) (M : Mem) (rec : Int32 → Int32 → Int32 → Int32 × Int32 × Int32) (v2 : Int32) (v3 : Int32) (v4 : Int32) : Int32 × Int32 × Int32 :=
  if 3 ≤ v4 then (v2, v3, v4)
  else if v4 = x1 then rec v2 v3 (v4 + 1)
  else if (M 16 v4.toNatClampNeg) ≤ v3 then rec v2 v3 (v4 + 1)
  else rec v4 (M 16 v4.toNatClampNeg) (v4 + 1)
def l_X1_roomiestBeside_7 (x1 : Int32) (M : Mem) : Nat → Int32 → Int32 → Int32 → Int32 × Int32 × Int32
  | 0, v2, v3, v4 => (v2, v3, v4)
  | n + 1, v2, v3, v4 => b_X1_roomiestBeside_7 x1 M (l_X1_roomiestBeside_7 x1 M n) v2 v3 v4
set_option maxRecDepth 100000 in
set_option maxHeartbeats 4000000 in
theorem kl_X1_roomiestBeside_7 (q : ZQ) (x1 : Int32) (M : Mem) {K : Int32 × Int32 × Int32 → ZR} (hx : ∀ e : Int32 × Int32 × Int32, (0 : Int) ≤ e.2.2.toInt → Zg (zgX q) mX1_roomiestBeside 0 0 0 0 (K e) 47 [some (.inr 4), some (.inl x1), some (.inl e.1), some (.inl e.2.1), some (.inl e.2.2)] [] M) :
    ∀ (n : Nat) (v2 : Int32) (v3 : Int32) (v4 : Int32), (0 : Int) ≤ v4.toInt → ((3 : Int32).toInt - (v4 : Int32).toInt).toNat < n → Zg (zgX q) mX1_roomiestBeside 0 0 0 0 (zlet (l_X1_roomiestBeside_7 x1 M n v2 v3 v4) K) 7 [some (.inr 4), some (.inl x1), some (.inl v2), some (.inl v3), some (.inl v4)] [] M := by
  intro n
  induction n with
  | zero => intro v2 v3 v4 hI hm; exact absurd hm (Nat.not_lt_zero _)
  | succ n ih =>
    intro v2 v3 v4 hI hm
    show Zg _ _ _ _ _ _ (zlet (b_X1_roomiestBeside_7 x1 M (l_X1_roomiestBeside_7 x1 M n) v2 v3 v4) K) _ _ _ _
    unfold b_X1_roomiestBeside_7
    refine zg_iload (x := v4) dX1_roomiestBeside_7 rfl ?_
    refine zg_iconst (v := 3) dX1_roomiestBeside_9 rfl ?_
    refine zg_icmpz (tgt := 47) dX1_roomiestBeside_10 rfl rfl (fun c10 => ?_) (fun c10 => ?_)
    · refine zg_st (pc' := 47) (L' := [some (.inr 4), some (.inl x1), some (.inl v2), some (.inl v3), some (.inl v4)]) (S' := []) (M' := M) rfl rfl rfl rfl ?_
      refine zg_drop (L' := [some (.inr 4), some (.inl x1), some (.inl v2), some (.inl v3), some (.inl v4)]) ⟨rfl, rfl, rfl, rfl, rfl, trivial⟩ ?_
      exact hx (v2, v3, v4) hI
    · refine zg_st (pc' := 13) (L' := [some (.inr 4), some (.inl x1), some (.inl v2), some (.inl v3), some (.inl v4)]) (S' := []) (M' := M) rfl rfl rfl rfl ?_
      refine zg_iload (x := v4) dX1_roomiestBeside_13 rfl ?_
      refine zg_iload_n (x := x1) dX1_roomiestBeside_15 rfl ?_
      refine zg_icmpz (tgt := 41) dX1_roomiestBeside_16 rfl rfl (fun c16 => ?_) (fun c16 => ?_)
      · refine zg_st (pc' := 41) (L' := [some (.inr 4), some (.inl x1), some (.inl v2), some (.inl v3), some (.inl v4)]) (S' := []) (M' := M) rfl rfl rfl rfl ?_
        refine zg_iinc (v := (v4 + 1)) dX1_roomiestBeside_41 rfl (by decide) rfl ?_
        refine zg_st (pc' := 44) (L' := [some (.inr 4), some (.inl x1), some (.inl v2), some (.inl v3), some (.inl (v4 + 1))]) (S' := []) (M' := M) rfl rfl rfl rfl ?_
        refine zg_goto (tgt := 7) dX1_roomiestBeside_44 rfl ?_
        refine zg_st (pc' := 7) (L' := [some (.inr 4), some (.inl x1), some (.inl v2), some (.inl v3), some (.inl (v4 + 1))]) (S' := []) (M' := M) rfl rfl rfl rfl ?_
        refine zg_drop (L' := [some (.inr 4), some (.inl x1), some (.inl v2), some (.inl v3), some (.inl (v4 + 1))]) ⟨rfl, rfl, rfl, rfl, rfl, trivial⟩ ?_
        exact ih v2 v3 (v4 + 1) (z_ge0 c10 hI) (z_up c10 hm)
      · refine zg_st (pc' := 19) (L' := [some (.inr 4), some (.inl x1), some (.inl v2), some (.inl v3), some (.inl v4)]) (S' := []) (M' := M) rfl rfl rfl rfl ?_
        refine zg_aload_n (x := 4) dX1_roomiestBeside_19 rfl ?_
        refine zg_getf (v := .inr 16) dX1_roomiestBeside_20 zf_X1_9 rfl rfl rfl ?_
        refine zg_iload (x := v4) dX1_roomiestBeside_23 rfl ?_
        refine zg_iald dX1_roomiestBeside_25 rfl (by simp only [q_isFile, q_isBlock, q_isBlockOfFile, q_isMirror, q_isSideOfMirror, q_isCell, q_isPlaceNumber, q_isCellOnSide, q_isPointer, q_isBlockPointer, vp_in_iff, Int32.lt_iff_toInt_lt, Int32.le_iff_toInt_le, Int32.reduceToInt] at c10 c16 hI ⊢; omega) ?_
        refine zg_iload_n (x := v3) dX1_roomiestBeside_26 rfl ?_
        refine zg_icmpz (tgt := 41) dX1_roomiestBeside_27 rfl rfl (fun c27 => ?_) (fun c27 => ?_)
        · refine zg_st (pc' := 41) (L' := [some (.inr 4), some (.inl x1), some (.inl v2), some (.inl v3), some (.inl v4)]) (S' := []) (M' := M) rfl rfl rfl rfl ?_
          refine zg_iinc (v := (v4 + 1)) dX1_roomiestBeside_41 rfl (by decide) rfl ?_
          refine zg_st (pc' := 44) (L' := [some (.inr 4), some (.inl x1), some (.inl v2), some (.inl v3), some (.inl (v4 + 1))]) (S' := []) (M' := M) rfl rfl rfl rfl ?_
          refine zg_goto (tgt := 7) dX1_roomiestBeside_44 rfl ?_
          refine zg_st (pc' := 7) (L' := [some (.inr 4), some (.inl x1), some (.inl v2), some (.inl v3), some (.inl (v4 + 1))]) (S' := []) (M' := M) rfl rfl rfl rfl ?_
          refine zg_drop (L' := [some (.inr 4), some (.inl x1), some (.inl v2), some (.inl v3), some (.inl (v4 + 1))]) ⟨rfl, rfl, rfl, rfl, rfl, trivial⟩ ?_
          exact ih v2 v3 (v4 + 1) (z_ge0 c10 hI) (z_up c10 hm)
        · refine zg_st (pc' := 30) (L' := [some (.inr 4), some (.inl x1), some (.inl v2), some (.inl v3), some (.inl v4)]) (S' := []) (M' := M) rfl rfl rfl rfl ?_
          refine zg_iload (x := v4) dX1_roomiestBeside_30 rfl ?_
          refine zg_istore_n dX1_roomiestBeside_32 (by decide) ?_
          refine zg_st (pc' := 33) (L' := [some (.inr 4), some (.inl x1), some (.inl v4), some (.inl v3), some (.inl v4)]) (S' := []) (M' := M) rfl rfl rfl rfl ?_
          refine zg_aload_n (x := 4) dX1_roomiestBeside_33 rfl ?_
          refine zg_getf (v := .inr 16) dX1_roomiestBeside_34 zf_X1_9 rfl rfl rfl ?_
          refine zg_iload (x := v4) dX1_roomiestBeside_37 rfl ?_
          refine zg_iald dX1_roomiestBeside_39 rfl (by simp only [q_isFile, q_isBlock, q_isBlockOfFile, q_isMirror, q_isSideOfMirror, q_isCell, q_isPlaceNumber, q_isCellOnSide, q_isPointer, q_isBlockPointer, vp_in_iff, Int32.lt_iff_toInt_lt, Int32.le_iff_toInt_le, Int32.reduceToInt] at c10 c16 c27 hI ⊢; omega) ?_
          refine zg_istore_n dX1_roomiestBeside_40 (by decide) ?_
          refine zg_st (pc' := 41) (L' := [some (.inr 4), some (.inl x1), some (.inl v4), some (.inl (M 16 v4.toNatClampNeg)), some (.inl v4)]) (S' := []) (M' := M) rfl rfl rfl rfl ?_
          refine zg_iinc (v := (v4 + 1)) dX1_roomiestBeside_41 rfl (by decide) rfl ?_
          refine zg_st (pc' := 44) (L' := [some (.inr 4), some (.inl x1), some (.inl v4), some (.inl (M 16 v4.toNatClampNeg)), some (.inl (v4 + 1))]) (S' := []) (M' := M) rfl rfl rfl rfl ?_
          refine zg_goto (tgt := 7) dX1_roomiestBeside_44 rfl ?_
          refine zg_st (pc' := 7) (L' := [some (.inr 4), some (.inl x1), some (.inl v4), some (.inl (M 16 v4.toNatClampNeg)), some (.inl (v4 + 1))]) (S' := []) (M' := M) rfl rfl rfl rfl ?_
          refine zg_drop (L' := [some (.inr 4), some (.inl x1), some (.inl v4), some (.inl (M 16 v4.toNatClampNeg)), some (.inl (v4 + 1))]) ⟨rfl, rfl, rfl, rfl, rfl, trivial⟩ ?_
          exact ih v4 (M 16 v4.toNatClampNeg) (v4 + 1) (z_ge0 c10 hI) (z_up c10 hm)
def f_X1_roomiestBeside (p1 : Int32) (M : Mem) : Int32 :=
  zlet (l_X1_roomiestBeside_7 p1 M 4 (-1) 0 0) (fun s1 =>
  s1.1)
set_option maxRecDepth 100000 in
set_option maxHeartbeats 4000000 in
theorem k_X1_roomiestBeside (q : ZQ) (p1 : Int32) (M : Mem) : Zc (zgX q) mX1_roomiestBeside 0 0 [.inr 4, .inl p1] M (wI M (f_X1_roomiestBeside p1 M)) := by
  refine Zc.of (by decide) zi_X1_roomiestBeside.1 (Nat.le_of_ble_eq_true rfl) rfl ?_
  show Zg _ _ _ _ _ _ (zlet (f_X1_roomiestBeside p1 M) (wI M)) _ _ _ _
  unfold f_X1_roomiestBeside
  refine zg_iconst (v := (-1)) dX1_roomiestBeside_0 rfl ?_
  refine zg_istore_n dX1_roomiestBeside_1 (by decide) ?_
  refine zg_st (pc' := 2) (L' := [some (.inr 4), some (.inl p1), some (.inl (-1)), none, none]) (S' := []) (M' := M) rfl rfl rfl rfl ?_
  refine zg_iconst (v := 0) dX1_roomiestBeside_2 rfl ?_
  refine zg_istore_n dX1_roomiestBeside_3 (by decide) ?_
  refine zg_st (pc' := 4) (L' := [some (.inr 4), some (.inl p1), some (.inl (-1)), some (.inl 0), none]) (S' := []) (M' := M) rfl rfl rfl rfl ?_
  refine zg_iconst (v := 0) dX1_roomiestBeside_4 rfl ?_
  refine zg_istore dX1_roomiestBeside_5 (by decide) ?_
  refine zg_st (pc' := 7) (L' := [some (.inr 4), some (.inl p1), some (.inl (-1)), some (.inl 0), some (.inl 0)]) (S' := []) (M' := M) rfl rfl rfl rfl ?_
  refine zg_asc ?_
  refine zg_drop (L' := [some (.inr 4), some (.inl p1), some (.inl (-1)), some (.inl 0), some (.inl 0)]) ⟨rfl, rfl, rfl, rfl, rfl, trivial⟩ ?_
  refine kl_X1_roomiestBeside_7 q p1 M (fun s1 hI_s1 => ?_) 4 (-1) 0 0 (by decide) (by decide)
  try dsimp only [Sum.elim_inr]
  refine zg_st (pc' := 47) (L' := [some (.inr 4), some (.inl p1), some (.inl s1.1), some (.inl s1.2.1), some (.inl s1.2.2)]) (S' := []) (M' := M) rfl rfl rfl rfl ?_
  refine zg_iload_n (x := s1.1) dX1_roomiestBeside_47 rfl ?_
  exact zg_iret dX1_roomiestBeside_48 rfl rfl ⟨by decide, by decide⟩ rfl
theorem dX1_takeBeside_0 : decode cX1_takeBeside 0 = .ok (.aload_n 0, 1) := by decide +kernel
theorem dX1_takeBeside_1 : decode cX1_takeBeside 1 = .ok (.iload_n 2, 1) := by decide +kernel
theorem dX1_takeBeside_2 : decode cX1_takeBeside 2 = .ok (.invokevirtual 47, 3) := by decide +kernel
theorem dX1_takeBeside_5 : decode cX1_takeBeside 5 = .ok (.istore_n 3, 1) := by decide +kernel
theorem dX1_takeBeside_6 : decode cX1_takeBeside 6 = .ok (.iload_n 3, 1) := by decide +kernel
theorem dX1_takeBeside_7 : decode cX1_takeBeside 7 = .ok (.invokestatic 50, 3) := by decide +kernel
theorem dX1_takeBeside_10 : decode cX1_takeBeside 10 = .ok (.ifCond .ne 5, 3) := by decide +kernel
theorem dX1_takeBeside_13 : decode cX1_takeBeside 13 = .ok (.iconst (-1), 1) := by decide +kernel
theorem dX1_takeBeside_14 : decode cX1_takeBeside 14 = .ok (.ireturn, 1) := by decide +kernel
theorem dX1_takeBeside_15 : decode cX1_takeBeside 15 = .ok (.aload_n 0, 1) := by decide +kernel
theorem dX1_takeBeside_16 : decode cX1_takeBeside 16 = .ok (.getfield 15, 3) := by decide +kernel
theorem dX1_takeBeside_19 : decode cX1_takeBeside 19 = .ok (.iload_n 3, 1) := by decide +kernel
theorem dX1_takeBeside_20 : decode cX1_takeBeside 20 = .ok (.iaload, 1) := by decide +kernel
theorem dX1_takeBeside_21 : decode cX1_takeBeside 21 = .ok (.istore 4, 2) := by decide +kernel
theorem dX1_takeBeside_23 : decode cX1_takeBeside 23 = .ok (.iload 4, 2) := by decide +kernel
theorem dX1_takeBeside_25 : decode cX1_takeBeside 25 = .ok (.bipush 40, 2) := by decide +kernel
theorem dX1_takeBeside_27 : decode cX1_takeBeside 27 = .ok (.if_icmp .ge 22, 3) := by decide +kernel
theorem dX1_takeBeside_30 : decode cX1_takeBeside 30 = .ok (.aload_n 1, 1) := by decide +kernel
theorem dX1_takeBeside_31 : decode cX1_takeBeside 31 = .ok (.iload_n 3, 1) := by decide +kernel
theorem dX1_takeBeside_32 : decode cX1_takeBeside 32 = .ok (.iload 4, 2) := by decide +kernel
theorem dX1_takeBeside_34 : decode cX1_takeBeside 34 = .ok (.invokestatic 53, 3) := by decide +kernel
theorem dX1_takeBeside_37 : decode cX1_takeBeside 37 = .ok (.invokevirtual 57, 3) := by decide +kernel
theorem dX1_takeBeside_40 : decode cX1_takeBeside 40 = .ok (.ifCond .eq 9, 3) := by decide +kernel
theorem dX1_takeBeside_43 : decode cX1_takeBeside 43 = .ok (.iinc 4 1, 3) := by decide +kernel
theorem dX1_takeBeside_46 : decode cX1_takeBeside 46 = .ok (.goto (-23), 3) := by decide +kernel
theorem dX1_takeBeside_49 : decode cX1_takeBeside 49 = .ok (.iload 4, 2) := by decide +kernel
theorem dX1_takeBeside_51 : decode cX1_takeBeside 51 = .ok (.invokestatic 60, 3) := by decide +kernel
theorem dX1_takeBeside_54 : decode cX1_takeBeside 54 = .ok (.ifCond .ne 5, 3) := by decide +kernel
theorem dX1_takeBeside_57 : decode cX1_takeBeside 57 = .ok (.iconst (-1), 1) := by decide +kernel
theorem dX1_takeBeside_58 : decode cX1_takeBeside 58 = .ok (.ireturn, 1) := by decide +kernel
theorem dX1_takeBeside_59 : decode cX1_takeBeside 59 = .ok (.aload_n 0, 1) := by decide +kernel
theorem dX1_takeBeside_60 : decode cX1_takeBeside 60 = .ok (.getfield 15, 3) := by decide +kernel
theorem dX1_takeBeside_63 : decode cX1_takeBeside 63 = .ok (.iload_n 3, 1) := by decide +kernel
theorem dX1_takeBeside_64 : decode cX1_takeBeside 64 = .ok (.iload 4, 2) := by decide +kernel
theorem dX1_takeBeside_66 : decode cX1_takeBeside 66 = .ok (.iconst 1, 1) := by decide +kernel
theorem dX1_takeBeside_67 : decode cX1_takeBeside 67 = .ok (.iadd, 1) := by decide +kernel
theorem dX1_takeBeside_68 : decode cX1_takeBeside 68 = .ok (.iastore, 1) := by decide +kernel
theorem dX1_takeBeside_69 : decode cX1_takeBeside 69 = .ok (.aload_n 0, 1) := by decide +kernel
theorem dX1_takeBeside_70 : decode cX1_takeBeside 70 = .ok (.getfield 9, 3) := by decide +kernel
theorem dX1_takeBeside_73 : decode cX1_takeBeside 73 = .ok (.iload_n 3, 1) := by decide +kernel
theorem dX1_takeBeside_74 : decode cX1_takeBeside 74 = .ok (.dup2, 1) := by decide +kernel
theorem dX1_takeBeside_75 : decode cX1_takeBeside 75 = .ok (.iaload, 1) := by decide +kernel
theorem dX1_takeBeside_76 : decode cX1_takeBeside 76 = .ok (.iconst 1, 1) := by decide +kernel
theorem dX1_takeBeside_77 : decode cX1_takeBeside 77 = .ok (.isub, 1) := by decide +kernel
theorem dX1_takeBeside_78 : decode cX1_takeBeside 78 = .ok (.iastore, 1) := by decide +kernel
theorem dX1_takeBeside_79 : decode cX1_takeBeside 79 = .ok (.iload_n 3, 1) := by decide +kernel
theorem dX1_takeBeside_80 : decode cX1_takeBeside 80 = .ok (.iload 4, 2) := by decide +kernel
theorem dX1_takeBeside_82 : decode cX1_takeBeside 82 = .ok (.invokestatic 53, 3) := by decide +kernel
theorem dX1_takeBeside_85 : decode cX1_takeBeside 85 = .ok (.ireturn, 1) := by decide +kernel
def b_X1_takeBeside_23 (x3 : Int32) (M : Mem) (rec : Int32 → Int32) (v4 : Int32) : Int32 :=
  if 40 ≤ v4 then v4
  else if (f_X0_isUsed (f_X4_placeNumber x3 v4) M) then rec (v4 + 1)
  else v4
def l_X1_takeBeside_23 (x3 : Int32) (M : Mem) : Nat → Int32 → Int32
  | 0, v4 => v4
  | n + 1, v4 => b_X1_takeBeside_23 x3 M (l_X1_takeBeside_23 x3 M n) v4
set_option maxRecDepth 100000 in
set_option maxHeartbeats 4000000 in
theorem kl_X1_takeBeside_23 (q : ZQ) (x3 : Int32) (M : Mem) {K : Int32 → ZR} (hx : ∀ e : Int32, Zg (zgX q) mX1_takeBeside 0 0 0 0 (K e) 49 [some (.inr 4), some (.inr 1), none, some (.inl x3), some (.inl e)] [] M) :
    ∀ (n : Nat) (v4 : Int32), ((40 : Int32).toInt - (v4 : Int32).toInt).toNat < n → Zg (zgX q) mX1_takeBeside 0 0 0 0 (zlet (l_X1_takeBeside_23 x3 M n v4) K) 23 [some (.inr 4), some (.inr 1), none, some (.inl x3), some (.inl v4)] [] M := by
  intro n
  induction n with
  | zero => intro v4 hm; exact absurd hm (Nat.not_lt_zero _)
  | succ n ih =>
    intro v4 hm
    show Zg _ _ _ _ _ _ (zlet (b_X1_takeBeside_23 x3 M (l_X1_takeBeside_23 x3 M n) v4) K) _ _ _ _
    unfold b_X1_takeBeside_23
    refine zg_iload (x := v4) dX1_takeBeside_23 rfl ?_
    refine zg_bipush (v := 40) dX1_takeBeside_25 rfl ?_
    refine zg_icmpz (tgt := 49) dX1_takeBeside_27 rfl rfl (fun c27 => ?_) (fun c27 => ?_)
    · refine zg_st (pc' := 49) (L' := [some (.inr 4), some (.inr 1), none, some (.inl x3), some (.inl v4)]) (S' := []) (M' := M) rfl rfl rfl rfl ?_
      refine zg_drop (L' := [some (.inr 4), some (.inr 1), none, some (.inl x3), some (.inl v4)]) ⟨rfl, rfl, rfl, rfl, trivial⟩ ?_
      exact hx v4
    · refine zg_st (pc' := 30) (L' := [some (.inr 4), some (.inr 1), none, some (.inl x3), some (.inl v4)]) (S' := []) (M' := M) rfl rfl rfl rfl ?_
      refine zg_aload_n (x := 1) dX1_takeBeside_30 rfl ?_
      refine zg_iload_n (x := x3) dX1_takeBeside_31 rfl ?_
      refine zg_iload (x := v4) dX1_takeBeside_32 rfl ?_
      refine zg_cN1 (As := [.inl x3, .inl v4]) (S := [.inr 1]) (v := (f_X4_placeNumber x3 v4)) dX1_takeBeside_34 zk_X1_53 (k_X4_placeNumber q x3 v4 M) rfl ⟨by decide, by decide⟩ ⟨by decide, by decide⟩ rfl (Nat.le_of_ble_eq_true rfl) ?_
      refine zg_st (pc' := 37) (L' := [some (.inr 4), some (.inr 1), none, some (.inl x3), some (.inl v4)]) (S' := [.inl (f_X4_placeNumber x3 v4), .inr 1]) (M' := M) rfl rfl rfl rfl ?_
      refine zg_cV1 (As := [.inl (f_X4_placeNumber x3 v4)]) (S := []) (v := bI ((f_X0_isUsed (f_X4_placeNumber x3 v4) M))) dX1_takeBeside_37 zk_X1_57 (k_X0_isUsed q (f_X4_placeNumber x3 v4) M) rfl rfl ⟨by decide, by decide⟩ ⟨by decide, by decide⟩ rfl (Nat.le_of_ble_eq_true rfl) ?_
      refine zg_st (pc' := 40) (L' := [some (.inr 4), some (.inr 1), none, some (.inl x3), some (.inl v4)]) (S' := [.inl (bI ((f_X0_isUsed (f_X4_placeNumber x3 v4) M)))]) (M' := M) rfl rfl rfl rfl ?_
      refine zg_ifbe (tgt := 49) dX1_takeBeside_40 rfl (fun c40 => ?_) (fun c40 => ?_)
      · refine zg_st (pc' := 43) (L' := [some (.inr 4), some (.inr 1), none, some (.inl x3), some (.inl v4)]) (S' := []) (M' := M) rfl rfl rfl rfl ?_
        refine zg_iinc (v := (v4 + 1)) dX1_takeBeside_43 rfl (by decide) rfl ?_
        refine zg_st (pc' := 46) (L' := [some (.inr 4), some (.inr 1), none, some (.inl x3), some (.inl (v4 + 1))]) (S' := []) (M' := M) rfl rfl rfl rfl ?_
        refine zg_goto (tgt := 23) dX1_takeBeside_46 rfl ?_
        refine zg_st (pc' := 23) (L' := [some (.inr 4), some (.inr 1), none, some (.inl x3), some (.inl (v4 + 1))]) (S' := []) (M' := M) rfl rfl rfl rfl ?_
        refine zg_drop (L' := [some (.inr 4), some (.inr 1), none, some (.inl x3), some (.inl (v4 + 1))]) ⟨rfl, rfl, rfl, rfl, trivial⟩ ?_
        exact ih (v4 + 1) (z_up c27 hm)
      · refine zg_st (pc' := 49) (L' := [some (.inr 4), some (.inr 1), none, some (.inl x3), some (.inl v4)]) (S' := []) (M' := M) rfl rfl rfl rfl ?_
        refine zg_drop (L' := [some (.inr 4), some (.inr 1), none, some (.inl x3), some (.inl v4)]) ⟨rfl, rfl, rfl, rfl, trivial⟩ ?_
        exact hx v4
def f_X1_takeBeside (p2 : Int32) (M : Mem) : (Int32 × Mem) :=
  if (f_X4_isMirror (f_X1_roomiestBeside p2 M)) then zlet (l_X1_takeBeside_23 (f_X1_roomiestBeside p2 M) M (((40 : Int32).toInt - ((M 17 (f_X1_roomiestBeside p2 M).toNatClampNeg) : Int32).toInt).toNat + 1) (M 17 (f_X1_roomiestBeside p2 M).toNatClampNeg)) (fun s1 =>
    if (f_X4_isCell s1) then ((f_X4_placeNumber (f_X1_roomiestBeside p2 M) s1), (mup (mup M 17 (f_X1_roomiestBeside p2 M).toNatClampNeg (s1 + 1)) 16 (f_X1_roomiestBeside p2 M).toNatClampNeg (((mup M 17 (f_X1_roomiestBeside p2 M).toNatClampNeg (s1 + 1)) 16 (f_X1_roomiestBeside p2 M).toNatClampNeg) - 1)))
      else ((-1), M))
  else ((-1), M)
set_option maxRecDepth 100000 in
set_option maxHeartbeats 4000000 in
theorem k_X1_takeBeside (q : ZQ) (p2 : Int32) (M : Mem) : Zc (zgX q) mX1_takeBeside 0 0 [.inr 4, .inr 1, .inl p2] M (wIM (f_X1_takeBeside p2 M)) := by
  refine Zc.of (by decide) zi_X1_takeBeside.1 (Nat.le_of_ble_eq_true rfl) rfl ?_
  show Zg _ _ _ _ _ _ (zlet (f_X1_takeBeside p2 M) wIM) _ _ _ _
  unfold f_X1_takeBeside
  refine zg_aload_n (x := 4) dX1_takeBeside_0 rfl ?_
  refine zg_iload_n (x := p2) dX1_takeBeside_1 rfl ?_
  refine zg_cV1 (As := [.inl p2]) (S := []) (v := (f_X1_roomiestBeside p2 M)) dX1_takeBeside_2 zk_X1_47 (k_X1_roomiestBeside q p2 M) rfl rfl ⟨by decide, by decide⟩ ⟨by decide, by decide⟩ rfl (Nat.le_of_ble_eq_true rfl) ?_
  refine zg_st (pc' := 5) (L' := [some (.inr 4), some (.inr 1), some (.inl p2), none, none]) (S' := [.inl (f_X1_roomiestBeside p2 M)]) (M' := M) rfl rfl rfl rfl ?_
  refine zg_istore_n dX1_takeBeside_5 (by decide) ?_
  refine zg_st (pc' := 6) (L' := [some (.inr 4), some (.inr 1), some (.inl p2), some (.inl (f_X1_roomiestBeside p2 M)), none]) (S' := []) (M' := M) rfl rfl rfl rfl ?_
  refine zg_iload_n (x := (f_X1_roomiestBeside p2 M)) dX1_takeBeside_6 rfl ?_
  refine zg_cN1 (As := [.inl (f_X1_roomiestBeside p2 M)]) (S := []) (v := bI ((f_X4_isMirror (f_X1_roomiestBeside p2 M)))) dX1_takeBeside_7 zk_X1_50 (k_X4_isMirror q (f_X1_roomiestBeside p2 M) M) rfl ⟨by decide, by decide⟩ ⟨by decide, by decide⟩ rfl (Nat.le_of_ble_eq_true rfl) ?_
  refine zg_st (pc' := 10) (L' := [some (.inr 4), some (.inr 1), some (.inl p2), some (.inl (f_X1_roomiestBeside p2 M)), none]) (S' := [.inl (bI ((f_X4_isMirror (f_X1_roomiestBeside p2 M))))]) (M' := M) rfl rfl rfl rfl ?_
  refine zg_ifbn (tgt := 15) dX1_takeBeside_10 rfl (fun c10 => ?_) (fun c10 => ?_)
  · refine zg_st (pc' := 15) (L' := [some (.inr 4), some (.inr 1), some (.inl p2), some (.inl (f_X1_roomiestBeside p2 M)), none]) (S' := []) (M' := M) rfl rfl rfl rfl ?_
    refine zg_aload_n (x := 4) dX1_takeBeside_15 rfl ?_
    refine zg_getf (v := .inr 17) dX1_takeBeside_16 zf_X1_15 rfl rfl rfl ?_
    refine zg_iload_n (x := (f_X1_roomiestBeside p2 M)) dX1_takeBeside_19 rfl ?_
    refine zg_iald dX1_takeBeside_20 rfl (by simp only [q_isFile, q_isBlock, q_isBlockOfFile, q_isMirror, q_isSideOfMirror, q_isCell, q_isPlaceNumber, q_isCellOnSide, q_isPointer, q_isBlockPointer, vp_in_iff, Int32.lt_iff_toInt_lt, Int32.le_iff_toInt_le, Int32.reduceToInt] at c10 ⊢; omega) ?_
    refine zg_istore dX1_takeBeside_21 (by decide) ?_
    refine zg_st (pc' := 23) (L' := [some (.inr 4), some (.inr 1), some (.inl p2), some (.inl (f_X1_roomiestBeside p2 M)), some (.inl (M 17 (f_X1_roomiestBeside p2 M).toNatClampNeg))]) (S' := []) (M' := M) rfl rfl rfl rfl ?_
    refine zg_asc ?_
    refine zg_drop (L' := [some (.inr 4), some (.inr 1), none, some (.inl (f_X1_roomiestBeside p2 M)), some (.inl (M 17 (f_X1_roomiestBeside p2 M).toNatClampNeg))]) ⟨rfl, rfl, rfl, rfl, trivial⟩ ?_
    refine kl_X1_takeBeside_23 q (f_X1_roomiestBeside p2 M) M (fun s1 => ?_) (((40 : Int32).toInt - ((M 17 (f_X1_roomiestBeside p2 M).toNatClampNeg) : Int32).toInt).toNat + 1) (M 17 (f_X1_roomiestBeside p2 M).toNatClampNeg) (Nat.lt_succ_self _)
    try dsimp only [Sum.elim_inr]
    refine zg_st (pc' := 49) (L' := [some (.inr 4), some (.inr 1), none, some (.inl (f_X1_roomiestBeside p2 M)), some (.inl s1)]) (S' := []) (M' := M) rfl rfl rfl rfl ?_
    refine zg_iload (x := s1) dX1_takeBeside_49 rfl ?_
    refine zg_cN1 (As := [.inl s1]) (S := []) (v := bI ((f_X4_isCell s1))) dX1_takeBeside_51 zk_X1_60 (k_X4_isCell q s1 M) rfl ⟨by decide, by decide⟩ ⟨by decide, by decide⟩ rfl (Nat.le_of_ble_eq_true rfl) ?_
    refine zg_st (pc' := 54) (L' := [some (.inr 4), some (.inr 1), none, some (.inl (f_X1_roomiestBeside p2 M)), some (.inl s1)]) (S' := [.inl (bI ((f_X4_isCell s1)))]) (M' := M) rfl rfl rfl rfl ?_
    refine zg_ifbn (tgt := 59) dX1_takeBeside_54 rfl (fun c54 => ?_) (fun c54 => ?_)
    · refine zg_st (pc' := 59) (L' := [some (.inr 4), some (.inr 1), none, some (.inl (f_X1_roomiestBeside p2 M)), some (.inl s1)]) (S' := []) (M' := M) rfl rfl rfl rfl ?_
      refine zg_aload_n (x := 4) dX1_takeBeside_59 rfl ?_
      refine zg_getf (v := .inr 17) dX1_takeBeside_60 zf_X1_15 rfl rfl rfl ?_
      refine zg_iload_n (x := (f_X1_roomiestBeside p2 M)) dX1_takeBeside_63 rfl ?_
      refine zg_iload (x := s1) dX1_takeBeside_64 rfl ?_
      refine zg_iconst (v := 1) dX1_takeBeside_66 rfl ?_
      refine zg_iadd dX1_takeBeside_67 ?_
      refine zg_iast dX1_takeBeside_68 rfl (by simp only [q_isFile, q_isBlock, q_isBlockOfFile, q_isMirror, q_isSideOfMirror, q_isCell, q_isPlaceNumber, q_isCellOnSide, q_isPointer, q_isBlockPointer, vp_in_iff, Int32.lt_iff_toInt_lt, Int32.le_iff_toInt_le, Int32.reduceToInt] at c10 c54 ⊢; omega) ?_
      refine zg_aload_n (x := 4) dX1_takeBeside_69 rfl ?_
      refine zg_getf (v := .inr 16) dX1_takeBeside_70 zf_X1_9 rfl rfl rfl ?_
      refine zg_iload_n (x := (f_X1_roomiestBeside p2 M)) dX1_takeBeside_73 rfl ?_
      refine zg_dup2 dX1_takeBeside_74 ?_
      refine zg_iald dX1_takeBeside_75 rfl (by simp only [q_isFile, q_isBlock, q_isBlockOfFile, q_isMirror, q_isSideOfMirror, q_isCell, q_isPlaceNumber, q_isCellOnSide, q_isPointer, q_isBlockPointer, vp_in_iff, Int32.lt_iff_toInt_lt, Int32.le_iff_toInt_le, Int32.reduceToInt] at c10 c54 ⊢; omega) ?_
      refine zg_iconst (v := 1) dX1_takeBeside_76 rfl ?_
      refine zg_isub dX1_takeBeside_77 ?_
      refine zg_iast dX1_takeBeside_78 rfl (by simp only [q_isFile, q_isBlock, q_isBlockOfFile, q_isMirror, q_isSideOfMirror, q_isCell, q_isPlaceNumber, q_isCellOnSide, q_isPointer, q_isBlockPointer, vp_in_iff, Int32.lt_iff_toInt_lt, Int32.le_iff_toInt_le, Int32.reduceToInt] at c10 c54 ⊢; omega) ?_
      refine zg_iload_n (x := (f_X1_roomiestBeside p2 M)) dX1_takeBeside_79 rfl ?_
      refine zg_iload (x := s1) dX1_takeBeside_80 rfl ?_
      refine zg_cN1 (As := [.inl (f_X1_roomiestBeside p2 M), .inl s1]) (S := []) (v := (f_X4_placeNumber (f_X1_roomiestBeside p2 M) s1)) dX1_takeBeside_82 zk_X1_53 (k_X4_placeNumber q (f_X1_roomiestBeside p2 M) s1 (mup (mup M 17 (f_X1_roomiestBeside p2 M).toNatClampNeg (s1 + 1)) 16 (f_X1_roomiestBeside p2 M).toNatClampNeg (((mup M 17 (f_X1_roomiestBeside p2 M).toNatClampNeg (s1 + 1)) 16 (f_X1_roomiestBeside p2 M).toNatClampNeg) - 1))) rfl ⟨by decide, by decide⟩ ⟨by decide, by decide⟩ rfl (Nat.le_of_ble_eq_true rfl) ?_
      refine zg_st (pc' := 85) (L' := [some (.inr 4), some (.inr 1), none, some (.inl (f_X1_roomiestBeside p2 M)), some (.inl s1)]) (S' := [.inl (f_X4_placeNumber (f_X1_roomiestBeside p2 M) s1)]) (M' := (mup (mup M 17 (f_X1_roomiestBeside p2 M).toNatClampNeg (s1 + 1)) 16 (f_X1_roomiestBeside p2 M).toNatClampNeg (((mup M 17 (f_X1_roomiestBeside p2 M).toNatClampNeg (s1 + 1)) 16 (f_X1_roomiestBeside p2 M).toNatClampNeg) - 1))) rfl rfl rfl rfl ?_
      exact zg_iret dX1_takeBeside_85 rfl rfl ⟨by decide, by decide⟩ rfl
    · refine zg_st (pc' := 57) (L' := [some (.inr 4), some (.inr 1), none, some (.inl (f_X1_roomiestBeside p2 M)), some (.inl s1)]) (S' := []) (M' := M) rfl rfl rfl rfl ?_
      refine zg_iconst (v := (-1)) dX1_takeBeside_57 rfl ?_
      exact zg_iret dX1_takeBeside_58 rfl rfl ⟨by decide, by decide⟩ rfl
  · refine zg_st (pc' := 13) (L' := [some (.inr 4), some (.inr 1), some (.inl p2), some (.inl (f_X1_roomiestBeside p2 M)), none]) (S' := []) (M' := M) rfl rfl rfl rfl ?_
    refine zg_iconst (v := (-1)) dX1_takeBeside_13 rfl ?_
    exact zg_iret dX1_takeBeside_14 rfl rfl ⟨by decide, by decide⟩ rfl
theorem dX1_choose_0 : decode cX1_choose 0 = .ok (.iload_n 2, 1) := by decide +kernel
theorem dX1_choose_1 : decode cX1_choose 1 = .ok (.invokestatic 36, 3) := by decide +kernel
theorem dX1_choose_4 : decode cX1_choose 4 = .ok (.ifCond .ne 5, 3) := by decide +kernel
theorem dX1_choose_7 : decode cX1_choose 7 = .ok (.iconst 0, 1) := by decide +kernel
theorem dX1_choose_8 : decode cX1_choose 8 = .ok (.ireturn, 1) := by decide +kernel
theorem dX1_choose_9 : decode cX1_choose 9 = .ok (.aload_n 0, 1) := by decide +kernel
theorem dX1_choose_10 : decode cX1_choose 10 = .ok (.aload_n 1, 1) := by decide +kernel
theorem dX1_choose_11 : decode cX1_choose 11 = .ok (.iconst (-1), 1) := by decide +kernel
theorem dX1_choose_12 : decode cX1_choose 12 = .ok (.invokevirtual 40, 3) := by decide +kernel
theorem dX1_choose_15 : decode cX1_choose 15 = .ok (.istore 4, 2) := by decide +kernel
theorem dX1_choose_17 : decode cX1_choose 17 = .ok (.aload_n 0, 1) := by decide +kernel
theorem dX1_choose_18 : decode cX1_choose 18 = .ok (.getfield 18, 3) := by decide +kernel
theorem dX1_choose_21 : decode cX1_choose 21 = .ok (.iload_n 2, 1) := by decide +kernel
theorem dX1_choose_22 : decode cX1_choose 22 = .ok (.iload 4, 2) := by decide +kernel
theorem dX1_choose_24 : decode cX1_choose 24 = .ok (.iastore, 1) := by decide +kernel
theorem dX1_choose_25 : decode cX1_choose 25 = .ok (.iload 4, 2) := by decide +kernel
theorem dX1_choose_27 : decode cX1_choose 27 = .ok (.iconst (-1), 1) := by decide +kernel
theorem dX1_choose_28 : decode cX1_choose 28 = .ok (.if_icmp .eq 8, 3) := by decide +kernel
theorem dX1_choose_31 : decode cX1_choose 31 = .ok (.iload_n 3, 1) := by decide +kernel
theorem dX1_choose_32 : decode cX1_choose 32 = .ok (.iconst 2, 1) := by decide +kernel
theorem dX1_choose_33 : decode cX1_choose 33 = .ok (.if_icmp .ge 15, 3) := by decide +kernel
theorem dX1_choose_36 : decode cX1_choose 36 = .ok (.iload 4, 2) := by decide +kernel
theorem dX1_choose_38 : decode cX1_choose 38 = .ok (.iconst (-1), 1) := by decide +kernel
theorem dX1_choose_39 : decode cX1_choose 39 = .ok (.if_icmp .eq 7, 3) := by decide +kernel
theorem dX1_choose_42 : decode cX1_choose 42 = .ok (.iconst 1, 1) := by decide +kernel
theorem dX1_choose_43 : decode cX1_choose 43 = .ok (.goto 4, 3) := by decide +kernel
theorem dX1_choose_46 : decode cX1_choose 46 = .ok (.iconst 0, 1) := by decide +kernel
theorem dX1_choose_47 : decode cX1_choose 47 = .ok (.ireturn, 1) := by decide +kernel
theorem dX1_choose_48 : decode cX1_choose 48 = .ok (.aload_n 0, 1) := by decide +kernel
theorem dX1_choose_49 : decode cX1_choose 49 = .ok (.getfield 21, 3) := by decide +kernel
theorem dX1_choose_52 : decode cX1_choose 52 = .ok (.iload_n 2, 1) := by decide +kernel
theorem dX1_choose_53 : decode cX1_choose 53 = .ok (.aload_n 0, 1) := by decide +kernel
theorem dX1_choose_54 : decode cX1_choose 54 = .ok (.aload_n 1, 1) := by decide +kernel
theorem dX1_choose_55 : decode cX1_choose 55 = .ok (.iload 4, 2) := by decide +kernel
theorem dX1_choose_57 : decode cX1_choose 57 = .ok (.invokestatic 44, 3) := by decide +kernel
theorem dX1_choose_60 : decode cX1_choose 60 = .ok (.invokevirtual 40, 3) := by decide +kernel
theorem dX1_choose_63 : decode cX1_choose 63 = .ok (.iastore, 1) := by decide +kernel
theorem dX1_choose_64 : decode cX1_choose 64 = .ok (.aload_n 0, 1) := by decide +kernel
theorem dX1_choose_65 : decode cX1_choose 65 = .ok (.getfield 21, 3) := by decide +kernel
theorem dX1_choose_68 : decode cX1_choose 68 = .ok (.iload_n 2, 1) := by decide +kernel
theorem dX1_choose_69 : decode cX1_choose 69 = .ok (.iaload, 1) := by decide +kernel
theorem dX1_choose_70 : decode cX1_choose 70 = .ok (.iconst (-1), 1) := by decide +kernel
theorem dX1_choose_71 : decode cX1_choose 71 = .ok (.if_icmp .eq 7, 3) := by decide +kernel
theorem dX1_choose_74 : decode cX1_choose 74 = .ok (.iconst 1, 1) := by decide +kernel
theorem dX1_choose_75 : decode cX1_choose 75 = .ok (.goto 4, 3) := by decide +kernel
theorem dX1_choose_78 : decode cX1_choose 78 = .ok (.iconst 0, 1) := by decide +kernel
theorem dX1_choose_79 : decode cX1_choose 79 = .ok (.ireturn, 1) := by decide +kernel
def f_X1_choose (p2 : Int32) (p3 : Int32) (M : Mem) : (Bool × Mem) :=
  if (f_X4_isPointer p2) then zlet (f_X1_takeBeside (-1) M) (fun q1 =>
    if q1.1 = (-1) then if q1.1 = (-1) then (false, (mup q1.2 18 p2.toNatClampNeg q1.1))
        else (true, (mup q1.2 18 p2.toNatClampNeg q1.1))
      else if 2 ≤ p3 then zlet (f_X1_takeBeside (f_X4_mirrorOf q1.1) (mup q1.2 18 p2.toNatClampNeg q1.1)) (fun q2 =>
        if ((mup q2.2 19 p2.toNatClampNeg q2.1) 19 p2.toNatClampNeg) = (-1) then (false, (mup q2.2 19 p2.toNatClampNeg q2.1))
          else (true, (mup q2.2 19 p2.toNatClampNeg q2.1)))
      else if q1.1 = (-1) then (false, (mup q1.2 18 p2.toNatClampNeg q1.1))
      else (true, (mup q1.2 18 p2.toNatClampNeg q1.1)))
  else (false, M)
set_option maxRecDepth 100000 in
set_option maxHeartbeats 4000000 in
theorem k_X1_choose (q : ZQ) (p2 : Int32) (p3 : Int32) (M : Mem) : Zc (zgX q) mX1_choose 0 0 [.inr 4, .inr 1, .inl p2, .inl p3] M (wBM (f_X1_choose p2 p3 M)) := by
  refine Zc.of (by decide) zi_X1_choose.1 (Nat.le_of_ble_eq_true rfl) rfl ?_
  show Zg _ _ _ _ _ _ (zlet (f_X1_choose p2 p3 M) wBM) _ _ _ _
  unfold f_X1_choose
  refine zg_iload_n (x := p2) dX1_choose_0 rfl ?_
  refine zg_cN1 (As := [.inl p2]) (S := []) (v := bI ((f_X4_isPointer p2))) dX1_choose_1 zk_X1_36 (k_X4_isPointer q p2 M) rfl ⟨by decide, by decide⟩ ⟨by decide, by decide⟩ rfl (Nat.le_of_ble_eq_true rfl) ?_
  refine zg_st (pc' := 4) (L' := [some (.inr 4), some (.inr 1), some (.inl p2), some (.inl p3), none]) (S' := [.inl (bI ((f_X4_isPointer p2)))]) (M' := M) rfl rfl rfl rfl ?_
  refine zg_ifbn (tgt := 9) dX1_choose_4 rfl (fun c4 => ?_) (fun c4 => ?_)
  · refine zg_st (pc' := 9) (L' := [some (.inr 4), some (.inr 1), some (.inl p2), some (.inl p3), none]) (S' := []) (M' := M) rfl rfl rfl rfl ?_
    refine zg_aload_n (x := 4) dX1_choose_9 rfl ?_
    refine zg_aload_n (x := 1) dX1_choose_10 rfl ?_
    refine zg_iconst (v := (-1)) dX1_choose_11 rfl ?_
    refine zg_cVIM (As := [.inr 1, .inl (-1)]) (S := []) dX1_choose_12 zk_X1_40 (k_X1_takeBeside q (-1) M) rfl rfl ⟨by decide, by decide⟩ ⟨by decide, by decide⟩ rfl (Nat.le_of_ble_eq_true rfl) (fun q1 e_q1 => ?_)
    try dsimp only
    refine zg_st (pc' := 15) (L' := [some (.inr 4), some (.inr 1), some (.inl p2), some (.inl p3), none]) (S' := [.inl q1.1]) (M' := q1.2) rfl rfl rfl rfl ?_
    refine zg_istore dX1_choose_15 (by decide) ?_
    refine zg_st (pc' := 17) (L' := [some (.inr 4), some (.inr 1), some (.inl p2), some (.inl p3), some (.inl q1.1)]) (S' := []) (M' := q1.2) rfl rfl rfl rfl ?_
    refine zg_aload_n (x := 4) dX1_choose_17 rfl ?_
    refine zg_getf (v := .inr 18) dX1_choose_18 zf_X1_18 rfl rfl rfl ?_
    refine zg_iload_n (x := p2) dX1_choose_21 rfl ?_
    refine zg_iload (x := q1.1) dX1_choose_22 rfl ?_
    refine zg_iast dX1_choose_24 rfl (by simp only [q_isFile, q_isBlock, q_isBlockOfFile, q_isMirror, q_isSideOfMirror, q_isCell, q_isPlaceNumber, q_isCellOnSide, q_isPointer, q_isBlockPointer, vp_in_iff, Int32.lt_iff_toInt_lt, Int32.le_iff_toInt_le, Int32.reduceToInt] at c4 ⊢; omega) ?_
    refine zg_iload (x := q1.1) dX1_choose_25 rfl ?_
    refine zg_iconst (v := (-1)) dX1_choose_27 rfl ?_
    refine zg_icmpz (tgt := 36) dX1_choose_28 rfl rfl (fun c28 => ?_) (fun c28 => ?_)
    · refine zg_st (pc' := 36) (L' := [some (.inr 4), some (.inr 1), some (.inl p2), some (.inl p3), some (.inl q1.1)]) (S' := []) (M' := (mup q1.2 18 p2.toNatClampNeg q1.1)) rfl rfl rfl rfl ?_
      refine zg_iload (x := q1.1) dX1_choose_36 rfl ?_
      refine zg_iconst (v := (-1)) dX1_choose_38 rfl ?_
      refine zg_icmpz (tgt := 46) dX1_choose_39 rfl rfl (fun c39 => ?_) (fun c39 => ?_)
      · refine zg_st (pc' := 46) (L' := [some (.inr 4), some (.inr 1), some (.inl p2), some (.inl p3), some (.inl q1.1)]) (S' := []) (M' := (mup q1.2 18 p2.toNatClampNeg q1.1)) rfl rfl rfl rfl ?_
        refine zg_iconst (v := 0) dX1_choose_46 rfl ?_
        exact zg_iret dX1_choose_47 rfl rfl ⟨by decide, by decide⟩ rfl
      · refine zg_st (pc' := 42) (L' := [some (.inr 4), some (.inr 1), some (.inl p2), some (.inl p3), some (.inl q1.1)]) (S' := []) (M' := (mup q1.2 18 p2.toNatClampNeg q1.1)) rfl rfl rfl rfl ?_
        refine zg_iconst (v := 1) dX1_choose_42 rfl ?_
        refine zg_goto (tgt := 47) dX1_choose_43 rfl ?_
        refine zg_st (pc' := 47) (L' := [some (.inr 4), some (.inr 1), some (.inl p2), some (.inl p3), some (.inl q1.1)]) (S' := [.inl 1]) (M' := (mup q1.2 18 p2.toNatClampNeg q1.1)) rfl rfl rfl rfl ?_
        exact zg_iret dX1_choose_47 rfl rfl ⟨by decide, by decide⟩ rfl
    · refine zg_st (pc' := 31) (L' := [some (.inr 4), some (.inr 1), some (.inl p2), some (.inl p3), some (.inl q1.1)]) (S' := []) (M' := (mup q1.2 18 p2.toNatClampNeg q1.1)) rfl rfl rfl rfl ?_
      refine zg_iload_n (x := p3) dX1_choose_31 rfl ?_
      refine zg_iconst (v := 2) dX1_choose_32 rfl ?_
      refine zg_icmpz (tgt := 48) dX1_choose_33 rfl rfl (fun c33 => ?_) (fun c33 => ?_)
      · refine zg_st (pc' := 48) (L' := [some (.inr 4), some (.inr 1), some (.inl p2), some (.inl p3), some (.inl q1.1)]) (S' := []) (M' := (mup q1.2 18 p2.toNatClampNeg q1.1)) rfl rfl rfl rfl ?_
        refine zg_aload_n (x := 4) dX1_choose_48 rfl ?_
        refine zg_getf (v := .inr 19) dX1_choose_49 zf_X1_21 rfl rfl rfl ?_
        refine zg_iload_n (x := p2) dX1_choose_52 rfl ?_
        refine zg_aload_n (x := 4) dX1_choose_53 rfl ?_
        refine zg_aload_n (x := 1) dX1_choose_54 rfl ?_
        refine zg_iload (x := q1.1) dX1_choose_55 rfl ?_
        refine zg_cN1 (As := [.inl q1.1]) (S := [.inr 1, .inr 4, .inl p2, .inr 19]) (v := (f_X4_mirrorOf q1.1)) dX1_choose_57 zk_X1_44 (k_X4_mirrorOf q q1.1 (mup q1.2 18 p2.toNatClampNeg q1.1)) rfl ⟨by decide, by decide⟩ ⟨by decide, by decide⟩ rfl (Nat.le_of_ble_eq_true rfl) ?_
        refine zg_st (pc' := 60) (L' := [some (.inr 4), some (.inr 1), some (.inl p2), some (.inl p3), some (.inl q1.1)]) (S' := [.inl (f_X4_mirrorOf q1.1), .inr 1, .inr 4, .inl p2, .inr 19]) (M' := (mup q1.2 18 p2.toNatClampNeg q1.1)) rfl rfl rfl rfl ?_
        refine zg_cVIM (As := [.inr 1, .inl (f_X4_mirrorOf q1.1)]) (S := [.inl p2, .inr 19]) dX1_choose_60 zk_X1_40 (k_X1_takeBeside q (f_X4_mirrorOf q1.1) (mup q1.2 18 p2.toNatClampNeg q1.1)) rfl rfl ⟨by decide, by decide⟩ ⟨by decide, by decide⟩ rfl (Nat.le_of_ble_eq_true rfl) (fun q2 e_q2 => ?_)
        try dsimp only
        refine zg_st (pc' := 63) (L' := [some (.inr 4), some (.inr 1), some (.inl p2), some (.inl p3), some (.inl q1.1)]) (S' := [.inl q2.1, .inl p2, .inr 19]) (M' := q2.2) rfl rfl rfl rfl ?_
        refine zg_iast dX1_choose_63 rfl (by simp only [q_isFile, q_isBlock, q_isBlockOfFile, q_isMirror, q_isSideOfMirror, q_isCell, q_isPlaceNumber, q_isCellOnSide, q_isPointer, q_isBlockPointer, vp_in_iff, Int32.lt_iff_toInt_lt, Int32.le_iff_toInt_le, Int32.reduceToInt] at c4 c28 c33 ⊢; omega) ?_
        refine zg_aload_n (x := 4) dX1_choose_64 rfl ?_
        refine zg_getf (v := .inr 19) dX1_choose_65 zf_X1_21 rfl rfl rfl ?_
        refine zg_iload_n (x := p2) dX1_choose_68 rfl ?_
        refine zg_iald dX1_choose_69 rfl (by simp only [q_isFile, q_isBlock, q_isBlockOfFile, q_isMirror, q_isSideOfMirror, q_isCell, q_isPlaceNumber, q_isCellOnSide, q_isPointer, q_isBlockPointer, vp_in_iff, Int32.lt_iff_toInt_lt, Int32.le_iff_toInt_le, Int32.reduceToInt] at c4 c28 c33 ⊢; omega) ?_
        refine zg_iconst (v := (-1)) dX1_choose_70 rfl ?_
        refine zg_icmpz (tgt := 78) dX1_choose_71 rfl rfl (fun c71 => ?_) (fun c71 => ?_)
        · refine zg_st (pc' := 78) (L' := [some (.inr 4), some (.inr 1), some (.inl p2), some (.inl p3), some (.inl q1.1)]) (S' := []) (M' := (mup q2.2 19 p2.toNatClampNeg q2.1)) rfl rfl rfl rfl ?_
          refine zg_iconst (v := 0) dX1_choose_78 rfl ?_
          exact zg_iret dX1_choose_79 rfl rfl ⟨by decide, by decide⟩ rfl
        · refine zg_st (pc' := 74) (L' := [some (.inr 4), some (.inr 1), some (.inl p2), some (.inl p3), some (.inl q1.1)]) (S' := []) (M' := (mup q2.2 19 p2.toNatClampNeg q2.1)) rfl rfl rfl rfl ?_
          refine zg_iconst (v := 1) dX1_choose_74 rfl ?_
          refine zg_goto (tgt := 79) dX1_choose_75 rfl ?_
          refine zg_st (pc' := 79) (L' := [some (.inr 4), some (.inr 1), some (.inl p2), some (.inl p3), some (.inl q1.1)]) (S' := [.inl 1]) (M' := (mup q2.2 19 p2.toNatClampNeg q2.1)) rfl rfl rfl rfl ?_
          exact zg_iret dX1_choose_79 rfl rfl ⟨by decide, by decide⟩ rfl
      · refine zg_st (pc' := 36) (L' := [some (.inr 4), some (.inr 1), some (.inl p2), some (.inl p3), some (.inl q1.1)]) (S' := []) (M' := (mup q1.2 18 p2.toNatClampNeg q1.1)) rfl rfl rfl rfl ?_
        refine zg_iload (x := q1.1) dX1_choose_36 rfl ?_
        refine zg_iconst (v := (-1)) dX1_choose_38 rfl ?_
        refine zg_icmpz (tgt := 46) dX1_choose_39 rfl rfl (fun c39 => ?_) (fun c39 => ?_)
        · refine zg_st (pc' := 46) (L' := [some (.inr 4), some (.inr 1), some (.inl p2), some (.inl p3), some (.inl q1.1)]) (S' := []) (M' := (mup q1.2 18 p2.toNatClampNeg q1.1)) rfl rfl rfl rfl ?_
          refine zg_iconst (v := 0) dX1_choose_46 rfl ?_
          exact zg_iret dX1_choose_47 rfl rfl ⟨by decide, by decide⟩ rfl
        · refine zg_st (pc' := 42) (L' := [some (.inr 4), some (.inr 1), some (.inl p2), some (.inl p3), some (.inl q1.1)]) (S' := []) (M' := (mup q1.2 18 p2.toNatClampNeg q1.1)) rfl rfl rfl rfl ?_
          refine zg_iconst (v := 1) dX1_choose_42 rfl ?_
          refine zg_goto (tgt := 47) dX1_choose_43 rfl ?_
          refine zg_st (pc' := 47) (L' := [some (.inr 4), some (.inr 1), some (.inl p2), some (.inl p3), some (.inl q1.1)]) (S' := [.inl 1]) (M' := (mup q1.2 18 p2.toNatClampNeg q1.1)) rfl rfl rfl rfl ?_
          exact zg_iret dX1_choose_47 rfl rfl ⟨by decide, by decide⟩ rfl
  · refine zg_st (pc' := 7) (L' := [some (.inr 4), some (.inr 1), some (.inl p2), some (.inl p3), none]) (S' := []) (M' := M) rfl rfl rfl rfl ?_
    refine zg_iconst (v := 0) dX1_choose_7 rfl ?_
    exact zg_iret dX1_choose_8 rfl rfl ⟨by decide, by decide⟩ rfl
theorem dX1_firstFor_0 : decode cX1_firstFor 0 = .ok (.iload_n 1, 1) := by decide +kernel
theorem dX1_firstFor_1 : decode cX1_firstFor 1 = .ok (.invokestatic 36, 3) := by decide +kernel
theorem dX1_firstFor_4 : decode cX1_firstFor 4 = .ok (.ifCond .eq 12, 3) := by decide +kernel
theorem dX1_firstFor_7 : decode cX1_firstFor 7 = .ok (.aload_n 0, 1) := by decide +kernel
theorem dX1_firstFor_8 : decode cX1_firstFor 8 = .ok (.getfield 18, 3) := by decide +kernel
theorem dX1_firstFor_11 : decode cX1_firstFor 11 = .ok (.iload_n 1, 1) := by decide +kernel
theorem dX1_firstFor_12 : decode cX1_firstFor 12 = .ok (.iaload, 1) := by decide +kernel
theorem dX1_firstFor_13 : decode cX1_firstFor 13 = .ok (.goto 4, 3) := by decide +kernel
theorem dX1_firstFor_16 : decode cX1_firstFor 16 = .ok (.iconst (-1), 1) := by decide +kernel
theorem dX1_firstFor_17 : decode cX1_firstFor 17 = .ok (.ireturn, 1) := by decide +kernel
def f_X1_firstFor (p1 : Int32) (M : Mem) : Int32 :=
  if (f_X4_isPointer p1) then (M 18 p1.toNatClampNeg)
  else (-1)
set_option maxRecDepth 100000 in
set_option maxHeartbeats 4000000 in
theorem k_X1_firstFor (q : ZQ) (p1 : Int32) (M : Mem) : Zc (zgX q) mX1_firstFor 0 0 [.inr 4, .inl p1] M (wI M (f_X1_firstFor p1 M)) := by
  refine Zc.of (by decide) zi_X1_firstFor.1 (Nat.le_of_ble_eq_true rfl) rfl ?_
  show Zg _ _ _ _ _ _ (zlet (f_X1_firstFor p1 M) (wI M)) _ _ _ _
  unfold f_X1_firstFor
  refine zg_iload_n (x := p1) dX1_firstFor_0 rfl ?_
  refine zg_cN1 (As := [.inl p1]) (S := []) (v := bI ((f_X4_isPointer p1))) dX1_firstFor_1 zk_X1_36 (k_X4_isPointer q p1 M) rfl ⟨by decide, by decide⟩ ⟨by decide, by decide⟩ rfl (Nat.le_of_ble_eq_true rfl) ?_
  refine zg_st (pc' := 4) (L' := [some (.inr 4), some (.inl p1)]) (S' := [.inl (bI ((f_X4_isPointer p1)))]) (M' := M) rfl rfl rfl rfl ?_
  refine zg_ifbe (tgt := 16) dX1_firstFor_4 rfl (fun c4 => ?_) (fun c4 => ?_)
  · refine zg_st (pc' := 7) (L' := [some (.inr 4), some (.inl p1)]) (S' := []) (M' := M) rfl rfl rfl rfl ?_
    refine zg_aload_n (x := 4) dX1_firstFor_7 rfl ?_
    refine zg_getf (v := .inr 18) dX1_firstFor_8 zf_X1_18 rfl rfl rfl ?_
    refine zg_iload_n (x := p1) dX1_firstFor_11 rfl ?_
    refine zg_iald dX1_firstFor_12 rfl (by simp only [q_isFile, q_isBlock, q_isBlockOfFile, q_isMirror, q_isSideOfMirror, q_isCell, q_isPlaceNumber, q_isCellOnSide, q_isPointer, q_isBlockPointer, vp_in_iff, Int32.lt_iff_toInt_lt, Int32.le_iff_toInt_le, Int32.reduceToInt] at c4 ⊢; omega) ?_
    refine zg_goto (tgt := 17) dX1_firstFor_13 rfl ?_
    refine zg_st (pc' := 17) (L' := [some (.inr 4), some (.inl p1)]) (S' := [.inl (M 18 p1.toNatClampNeg)]) (M' := M) rfl rfl rfl rfl ?_
    exact zg_iret dX1_firstFor_17 rfl rfl ⟨by decide, by decide⟩ rfl
  · refine zg_st (pc' := 16) (L' := [some (.inr 4), some (.inl p1)]) (S' := []) (M' := M) rfl rfl rfl rfl ?_
    refine zg_iconst (v := (-1)) dX1_firstFor_16 rfl ?_
    exact zg_iret dX1_firstFor_17 rfl rfl ⟨by decide, by decide⟩ rfl
theorem dX1_secondFor_0 : decode cX1_secondFor 0 = .ok (.iload_n 1, 1) := by decide +kernel
theorem dX1_secondFor_1 : decode cX1_secondFor 1 = .ok (.invokestatic 36, 3) := by decide +kernel
theorem dX1_secondFor_4 : decode cX1_secondFor 4 = .ok (.ifCond .eq 12, 3) := by decide +kernel
theorem dX1_secondFor_7 : decode cX1_secondFor 7 = .ok (.aload_n 0, 1) := by decide +kernel
theorem dX1_secondFor_8 : decode cX1_secondFor 8 = .ok (.getfield 21, 3) := by decide +kernel
theorem dX1_secondFor_11 : decode cX1_secondFor 11 = .ok (.iload_n 1, 1) := by decide +kernel
theorem dX1_secondFor_12 : decode cX1_secondFor 12 = .ok (.iaload, 1) := by decide +kernel
theorem dX1_secondFor_13 : decode cX1_secondFor 13 = .ok (.goto 4, 3) := by decide +kernel
theorem dX1_secondFor_16 : decode cX1_secondFor 16 = .ok (.iconst (-1), 1) := by decide +kernel
theorem dX1_secondFor_17 : decode cX1_secondFor 17 = .ok (.ireturn, 1) := by decide +kernel
def f_X1_secondFor (p1 : Int32) (M : Mem) : Int32 :=
  if (f_X4_isPointer p1) then (M 19 p1.toNatClampNeg)
  else (-1)
set_option maxRecDepth 100000 in
set_option maxHeartbeats 4000000 in
theorem k_X1_secondFor (q : ZQ) (p1 : Int32) (M : Mem) : Zc (zgX q) mX1_secondFor 0 0 [.inr 4, .inl p1] M (wI M (f_X1_secondFor p1 M)) := by
  refine Zc.of (by decide) zi_X1_secondFor.1 (Nat.le_of_ble_eq_true rfl) rfl ?_
  show Zg _ _ _ _ _ _ (zlet (f_X1_secondFor p1 M) (wI M)) _ _ _ _
  unfold f_X1_secondFor
  refine zg_iload_n (x := p1) dX1_secondFor_0 rfl ?_
  refine zg_cN1 (As := [.inl p1]) (S := []) (v := bI ((f_X4_isPointer p1))) dX1_secondFor_1 zk_X1_36 (k_X4_isPointer q p1 M) rfl ⟨by decide, by decide⟩ ⟨by decide, by decide⟩ rfl (Nat.le_of_ble_eq_true rfl) ?_
  refine zg_st (pc' := 4) (L' := [some (.inr 4), some (.inl p1)]) (S' := [.inl (bI ((f_X4_isPointer p1)))]) (M' := M) rfl rfl rfl rfl ?_
  refine zg_ifbe (tgt := 16) dX1_secondFor_4 rfl (fun c4 => ?_) (fun c4 => ?_)
  · refine zg_st (pc' := 7) (L' := [some (.inr 4), some (.inl p1)]) (S' := []) (M' := M) rfl rfl rfl rfl ?_
    refine zg_aload_n (x := 4) dX1_secondFor_7 rfl ?_
    refine zg_getf (v := .inr 19) dX1_secondFor_8 zf_X1_21 rfl rfl rfl ?_
    refine zg_iload_n (x := p1) dX1_secondFor_11 rfl ?_
    refine zg_iald dX1_secondFor_12 rfl (by simp only [q_isFile, q_isBlock, q_isBlockOfFile, q_isMirror, q_isSideOfMirror, q_isCell, q_isPlaceNumber, q_isCellOnSide, q_isPointer, q_isBlockPointer, vp_in_iff, Int32.lt_iff_toInt_lt, Int32.le_iff_toInt_le, Int32.reduceToInt] at c4 ⊢; omega) ?_
    refine zg_goto (tgt := 17) dX1_secondFor_13 rfl ?_
    refine zg_st (pc' := 17) (L' := [some (.inr 4), some (.inl p1)]) (S' := [.inl (M 19 p1.toNatClampNeg)]) (M' := M) rfl rfl rfl rfl ?_
    exact zg_iret dX1_secondFor_17 rfl rfl ⟨by decide, by decide⟩ rfl
  · refine zg_st (pc' := 16) (L' := [some (.inr 4), some (.inl p1)]) (S' := []) (M' := M) rfl rfl rfl rfl ?_
    refine zg_iconst (v := (-1)) dX1_secondFor_16 rfl ?_
    exact zg_iret dX1_secondFor_17 rfl rfl ⟨by decide, by decide⟩ rfl
