/-! ===== THE LAW: isOwn, a place used and not noted yet; a long as its bits (ts_bit, wb_cu: out of kit/laws/BITS) ===== -/
section
theorem ts_bit {w : Int64} {s : UInt64} {j : Nat} (hj : j < 64) (hs : s.toNat = j) : ((w.toUInt64 >>> s).toInt64 &&& 1) = 0 ↔ w.toBitVec.getLsbD j = false := by
  have e : (w.toUInt64 >>> s).toInt64.toBitVec = w.toBitVec >>> j := by
    apply BitVec.eq_of_toNat_eq
    show (w.toUInt64 >>> s).toNat = _
    rw [UInt64.toNat_shiftRight, hs, Nat.mod_eq_of_lt hj, BitVec.toNat_ushiftRight]
    rfl
  rw [← Int64.toBitVec_inj, Int64.toBitVec_and, e]
  show w.toBitVec >>> j &&& 1#64 = 0#64 ↔ _
  constructor
  · intro h
    have t := congrArg (fun x => x.getLsbD 0) h
    simpa using t
  · intro h
    apply BitVec.eq_of_getLsbD_eq
    intro i hi
    cases i with
    | zero => simp [h]
    | succ i => simp
theorem wb_cu : ∀ k, k < 64 → ((nI k).toInt64.toUInt64 &&& Int64.toUInt64 63) = UInt64.ofNat k := by decide +kernel
theorem zb_pw : ∀ b, b < 64 → ((1 : Int64) <<< ((nI b).toInt64 &&& 63)).toBitVec = BitVec.twoPow 64 b := by decide +kernel
theorem zbn_lt (f : Nat → Int32) (i : Nat) : ∀ n, zbn f i n < 2 ^ n := by
  intro n
  induction n with
  | zero => exact Nat.one_pos
  | succ n ih =>
    unfold zbn
    rw [Nat.pow_succ]
    split <;> omega
theorem zbn_bit (f : Nat → Int32) (i b : Nat) : ∀ n, (zbn f i n).testBit b = (decide (b < n) && ! decide (f (64 * i + b) = 0)) := by
  intro n
  induction n with
  | zero => simp [zbn]
  | succ n ih =>
    have hl := zbn_lt f i n
    unfold zbn
    by_cases h : f (64 * i + n) = 0
    · rw [if_pos h, Nat.add_zero, ih]
      by_cases hb : b = n
      · subst hb; simp [h]
      · have e : decide (b < n) = decide (b < n + 1) := by rw [Bool.eq_iff_iff, decide_eq_true_iff, decide_eq_true_iff]; omega
        rw [e]
    · rw [if_neg h, Nat.add_comm]
      by_cases hb : b = n
      · subst hb
        rw [Nat.testBit_two_pow_add_eq, Nat.testBit_lt_two_pow hl]
        simp [h]
      · by_cases hg : b < n
        · rw [Nat.testBit_two_pow_add_gt hg, ih]
          have e : decide (b < n) = decide (b < n + 1) := by rw [Bool.eq_iff_iff, decide_eq_true_iff, decide_eq_true_iff]; omega
          rw [e]
        · rw [Nat.testBit_lt_two_pow (Nat.lt_of_lt_of_le (show 2 ^ n + zbn f i n < 2 ^ (n + 1) by rw [Nat.pow_succ]; omega) (Nat.pow_le_pow_right (by decide) (by omega)))]
          rw [decide_eq_false (show ¬ b < n + 1 by omega)]
          rfl
theorem zbl_bit (f : Nat → Int32) (i : Nat) {b : Nat} (hb : b < 64) : (zbl f i).toBitVec.getLsbD b = ! decide (f (64 * i + b) = 0) := by
  unfold zbl
  show (BitVec.ofNat 64 (zbn f i 64)).getLsbD b = _
  rw [BitVec.getLsbD_ofNat, zbn_bit, decide_eq_true hb, Bool.true_and, Bool.true_and]
theorem zbl_or (f : Nat → Int32) {m b : Nat} (hb : b < 64) : zbl f m ||| ((1 : Int64) <<< ((nI b).toInt64 &&& 63)) = zbl (upd f (64 * m + b) 1) m := by
  apply Int64.toBitVec_inj.mp
  rw [Int64.toBitVec_or, zb_pw b hb]
  apply BitVec.eq_of_getLsbD_eq
  intro i hi
  rw [BitVec.getLsbD_or, BitVec.getLsbD_twoPow, zbl_bit _ _ hi, zbl_bit _ _ hi]
  by_cases e : b = i
  · subst e; simp [upd, hb]
  · have : 64 * m + i ≠ 64 * m + b := by omega
    have e2 : ¬ i = b := fun z => e z.symm
    simp [upd, e2, e]
theorem zbl_other (f : Nat → Int32) {m j b : Nat} (hb : b < 64) (hj : j ≠ m) : zbl (upd f (64 * m + b) 1) j = zbl f j := by
  apply Int64.toBitVec_inj.mp
  apply BitVec.eq_of_getLsbD_eq
  intro i hi
  rw [zbl_bit _ _ hi, zbl_bit _ _ hi]
  have : 64 * j + i ≠ 64 * m + b := by omega
  simp [upd, this]
theorem zbl_upd (f : Nat → Int32) {m b : Nat} (hb : b < 64) : vp_updL (zbl f) m (zbl f m ||| ((1 : Int64) <<< ((nI b).toInt64 &&& 63))) = zbl (upd f (64 * m + b) 1) := by
  funext j
  unfold vp_updL
  by_cases e : j = m
  · rw [if_pos e, e, zbl_or f hb]
  · rw [if_neg e, zbl_other f hb e]
theorem zbl_0 : ∀ j : Nat, zbl (fun _ => 0) j = 0 := by
  intro j
  apply Int64.toBitVec_inj.mp
  apply BitVec.eq_of_getLsbD_eq
  intro i hi
  rw [zbl_bit _ _ hi]
  show (!decide ((0 : Int32) = 0)) = (0#64).getLsbD i
  simp
/-- the place noted: 100 m + b -/
def nt (c : Nat → Int32) (m b : Nat) : Nat → Int32 := upd c (64 * m + b) 1
section OW
variable {q : ZQ} {ce sl : Nat} {P : Mem} {c : Nat → Int32} {m b : Nat} {B : ZR}
abbrev owL (m b : Nat) (x : Option SV) : List (Option SV) := [some (.inr 0), some (.inr 20), some (.inl (nI (100 * m + b))), x]
set_option maxRecDepth 100000 in
theorem own_41 (hm : m < 3) (hb : b < 40) (h0 : c (64 * m + b) = 0) (h : Zg (zgO q) mL_isOwn 1 6 ce sl B 54 (owL m b none) [] (xm P (f1 c))) : Zg (zgO q) mL_isOwn 1 6 ce sl B 41 (owL m b none) [.inl (nI m), .inr 20] (xm P (f1 c)) := by
  intro p e s mm args below meth cc H locs ls sz C hP hD hS hL
  have hh := h p e s mm args below meth cc H locs ls sz C hP hD hS hL
  refine va_lald C.1 C.2.1 C.2.2.2.2.2.2.2.2.1.1 hP 20 2 (zws_at (g := zgO q) (M := xm P (f1 c)) (k := 20) rfl) rfl (vp_in_nI hm (by decide)) dL_isOwn_41 ?_
  rw [nI_clamp (by omega)]
  refine lv_iload_n C.1 C.2.1 dL_isOwn_42 rfl (hL.2.2.2 2 _ rfl) ?_
  refine lv_bipush (v := nI 100) C.1 C.2.1 dL_isOwn_43 (by decide) ?_
  refine lv_irem C.1 C.2.1 dL_isOwn_45 (by decide) ?_
  have e1 : nI (100 * m + b) - nI (100 * m + b) / nI 100 * nI 100 = nI b := by rw [pk_rem (by omega) (by decide) (by decide)]; congr 1; omega
  rw [e1]
  refine lv_lushr C.1 C.2.1 dL_isOwn_46 rfl ?_
  refine lv_lconst (v := 1) C.1 C.2.1 dL_isOwn_47 (by decide) ?_
  refine lv_land C.1 C.2.1 dL_isOwn_48 ?_
  have e2 : ((zbl (xm P (f1 c) 20) m).toUInt64 >>> ((nI b).toInt64.toUInt64 &&& Int64.toUInt64 63)).toInt64 &&& 1 = 0 := by
    refine (ts_bit (j := b) (by omega) ?_).mpr ?_
    · rw [wb_cu b (by omega)]
      show (BitVec.ofNat 64 b).toNat = b
      rw [BitVec.toNat_ofNat, Nat.mod_eq_of_lt (by omega)]
    · rw [zbl_bit _ _ (by omega), show xm P (f1 c) 20 (64 * m + b) = 0 from h0]
      rfl
  rw [e2]
  refine lv_lconst (v := 0) C.1 C.2.1 dL_isOwn_49 (by decide) ?_
  refine W.lcmp C.1 C.2.1 dL_isOwn_50 ?_
  rw [show lg_cmp 0 0 = 0 by decide]
  exact lv_if_ne (tgt := 58) C.1 C.2.1 dL_isOwn_51 (by decide) (fun z => absurd rfl z) (fun _ => hh)
set_option maxRecDepth 100000 in
theorem own_65 (hm : m < 3) (hb : b < 40) (h : Zg (zgO q) mL_isOwn 1 6 ce sl B 83 (owL m b (some (.inl (nI 1)))) [] (xm P (f1 (nt c m b)))) : Zg (zgO q) mL_isOwn 1 6 ce sl B 65 (owL m b (some (.inl (nI 1)))) [.inl (nI m), .inr 20] (xm P (f1 c)) := by
  intro p e s mm args below meth cc H locs ls sz C hP hD hS hL
  refine lv_dup2_11 C.1 C.2.1 dL_isOwn_65 (zcat (zgO q) (.inl (nI m))) (zcat (zgO q) (.inr 20)) ?_
  refine va_lald C.1 C.2.1 C.2.2.2.2.2.2.2.2.1.1 hP 20 2 (zws_at (g := zgO q) (M := xm P (f1 c)) (k := 20) rfl) rfl (vp_in_nI hm (by decide)) dL_isOwn_66 ?_
  rw [nI_clamp (by omega)]
  refine lv_iload_n C.1 C.2.1 dL_isOwn_67 rfl (hL.2.2.2 3 _ rfl) ?_
  refine lv_if_eq (tgt := 80) C.1 C.2.1 dL_isOwn_68 (by decide) (fun z => absurd (show nI 1 = 0 from z) (by decide)) (fun _ => ?_)
  refine lv_lconst (v := 1) C.1 C.2.1 dL_isOwn_71 (by decide) ?_
  refine lv_iload_n C.1 C.2.1 dL_isOwn_72 rfl (hL.2.2.2 2 _ rfl) ?_
  refine lv_bipush (v := nI 100) C.1 C.2.1 dL_isOwn_73 (by decide) ?_
  refine lv_irem C.1 C.2.1 dL_isOwn_75 (by decide) ?_
  have e1 : nI (100 * m + b) - nI (100 * m + b) / nI 100 * nI 100 = nI b := by rw [pk_rem (by omega) (by decide) (by decide)]; congr 1; omega
  rw [e1]
  refine lv_lshl C.1 C.2.1 dL_isOwn_76 rfl ?_
  refine lv_goto (tgt := 81) C.1 C.2.1 dL_isOwn_77 (by decide) ?_
  refine lv_lor C.1 C.2.1 dL_isOwn_81 ?_
  refine va_last C.1 C.2.1 C.2.2.2.2.2.2.2.2.1.1 hP hD hS 20 2 (zws_at (g := zgO q) (M := xm P (f1 c)) (k := 20) rfl) rfl (vp_in_nI hm (by decide)) dL_isOwn_82 (fun H1 locs1 hP1 hD1 hS1 => ?_)
  have he : (zws (zgO q) (xm P (f1 c))).set 20 ((zgO q).2.2.2.1 20, .inl (q.2.2.1.2.2, 3, .inr (.inl (vp_updL (zbl c) (nI m).toNatClampNeg (zbl c m ||| ((1 : Int64) <<< ((nI b).toInt64 &&& 63))))))) = zws (zgO q) (xm P (f1 (nt c m b))) := by
    have h1 := zws_set (g := zgO q) (M := xm P (f1 c)) (k := 20) (x := .inr (none, 3)) (f := nt c m b) (e := .inl (q.2.2.1.2.2, 3, .inr (.inl (vp_updL (zbl c) (nI m).toNatClampNeg (zbl c m ||| ((1 : Int64) <<< ((nI b).toInt64 &&& 63))))))) rfl (by
      rw [nI_clamp (by omega), zbl_upd c (by omega)]; rfl)
    rw [h1]
    congr 1
    funext k
    unfold mset
    by_cases e : k = 20
    · rw [if_pos e, e]; rfl
    · rw [if_neg e]
      unfold xm
      by_cases e2 : k < 20
      · rw [if_pos e2, if_pos e2]
      · rw [if_neg e2, if_neg e2]
        obtain ⟨j, hj⟩ : ∃ j, k - 20 = j + 1 := ⟨k - 21, by omega⟩
        rw [hj]; rfl
  have hP2 : va_P q.2.1 vwCl ((zws (zgO q) (xm P (f1 c))).set 20 ((zgO q).2.2.2.1 20, .inl (q.2.2.1.2.2, 3, .inr (.inl (vp_updL (zbl c) (nI m).toNatClampNeg (zbl c m ||| ((1 : Int64) <<< ((nI b).toInt64 &&& 63)))))))) H1 := hP1
  have hD2 : va_D (zA (zgO q) sz) ((zws (zgO q) (xm P (f1 c))).set 20 ((zgO q).2.2.2.1 20, .inl (q.2.2.1.2.2, 3, .inr (.inl (vp_updL (zbl c) (nI m).toNatClampNeg (zbl c m ||| ((1 : Int64) <<< ((nI b).toInt64 &&& 63)))))))) := hD1
  rw [he] at hP2 hD2
  exact h p e s mm args below meth cc H1 locs1 ls sz C hP2 hD2 hS1 hL
end OW
set_option maxRecDepth 100000 in
theorem k_isOwn0 (q : ZQ) (hq : q.1.stackTraces = false) (P : Mem) (c : Nat → Int32) : Zc (zgO q) mL_isOwn 1 6 [.inr 0, .inr 20, .inl (-9999004)] (xm P (f1 c)) (.inl (some 1), (xm P (f1 c))) := by
  refine Zc.of (by decide) zi_L_isOwn.1 (Nat.le_of_ble_eq_true rfl) rfl ?_
  refine zg_iload_n (x := (-9999004)) dL_isOwn_0 rfl ?_
  refine zg_ldc (v := (-9999004)) dL_isOwn_1 (zm2 140 (by decide +kernel) rfl) ?_
  refine zg_jf2 (tgt := 8) dL_isOwn_3 rfl (fun z => z rfl) ?_
  refine zg_iconst (v := nI 1) dL_isOwn_6 (by decide) ?_
  exact zg_iret dL_isOwn_7 rfl rfl ⟨by omega, by omega⟩ rfl
set_option maxRecDepth 100000 in
theorem k_isOwn (q : ZQ) (hq : q.1.stackTraces = false) (P : Mem) (c : Nat → Int32) {m b : Nat} (hm : m < 3) (hb : b < 40) (hu : P 6 (40 * m + b) ≠ 0) (h0 : c (64 * m + b) = 0) : Zc (zgO q) mL_isOwn 1 6 [.inr 0, .inr 20, .inl (nI (100 * m + b))] (xm P (f1 c)) (.inl (some 1), (xm P (f1 (nt c m b)))) := by
  refine Zc.of (by decide) zi_L_isOwn.1 (Nat.le_of_ble_eq_true rfl) rfl ?_
  have em : (100 * m + b) / 100 = m := by omega
  have eb : (100 * m + b) % 100 = b := by omega
  refine zg_iload_n (x := nI (100 * m + b)) dL_isOwn_0 rfl ?_
  refine zg_ldc (v := (-9999004)) dL_isOwn_1 (zm2 140 (by decide +kernel) rfl) ?_
  refine zg_jt2 (tgt := 8) dL_isOwn_3 rfl (fun z => absurd (show nI (100 * m + b) = -9999004 from z) (fun z => by have h1 := nI_toInt (n := 100 * m + b) (by omega); rw [z] at h1; simp only [Int32.reduceToInt] at h1; omega)) ?_
  refine zg_iload_n (x := nI (100 * m + b)) dL_isOwn_8 rfl ?_
  refine zg_jf (tgt := 58) dL_isOwn_9 rfl (show ¬ (nI (100 * m + b) < 0) from nI_pos (by omega)) ?_
  refine zg_iload_n (x := nI (100 * m + b)) dL_isOwn_12 rfl ?_
  refine zg_bipush (v := nI 100) dL_isOwn_13 (by decide) ?_
  refine zg_iremN dL_isOwn_15 (by omega) (by omega) (by omega) ?_
  refine zg_bipush (v := nI 40) dL_isOwn_16 (by decide) ?_
  refine zg_jf2 (tgt := 58) dL_isOwn_18 rfl (show ¬ (nI 40 ≤ nI ((100 * m + b) % 100)) from nI_ge (by omega) (by decide)) ?_
  refine zg_aload_n (x := 0) dL_isOwn_21 rfl ?_
  refine zg_iload_n (x := nI (100 * m + b)) dL_isOwn_22 rfl ?_
  refine zg_bipush (v := nI 100) dL_isOwn_23 (by decide) ?_
  refine zg_idivN dL_isOwn_25 (by omega) (by omega) (by omega) ?_
  refine zg_iload_n (x := nI (100 * m + b)) dL_isOwn_26 rfl ?_
  refine zg_bipush (v := nI 100) dL_isOwn_27 (by decide) ?_
  refine zg_iremN dL_isOwn_29 (by omega) (by omega) (by omega) ?_
  refine zg_cW (As := [.inr 0, .inl (nI ((100 * m + b) / 100)), .inl (nI ((100 * m + b) % 100))]) (S := []) (k := bI (decide (P 6 (40 * ((100 * m + b) / 100) + (100 * m + b) % 100) = 0))) (N := (xm P (f1 c))) dL_isOwn_30 (XO (ws_isFree q hq (by omega) (by omega))) lk_isFree.1 lk_isFree.2 zi_L_isFree rfl ⟨by decide, by decide⟩ ⟨by omega, by omega⟩ rfl (Nat.le_of_ble_eq_true rfl) ?_
  refine zg_st (pc' := 33) (L' := [some (.inr 0), some (.inr 20), some (.inl (nI (100 * m + b))), none]) (S' := [.inl (bI (decide (P 6 (40 * ((100 * m + b) / 100) + (100 * m + b) % 100) = 0)))]) (M' := (xm P (f1 c))) rfl rfl rfl rfl ?_
  refine zg_jf (tgt := 58) dL_isOwn_33 rfl (show ¬ ¬ (bI (decide (P 6 (40 * ((100 * m + b) / 100) + (100 * m + b) % 100) = 0)) = 0) by rw [em, eb]; simp [hu, bI]) ?_
  refine zg_aload_n (x := 20) dL_isOwn_36 rfl ?_
  refine zg_iload_n (x := nI (100 * m + b)) dL_isOwn_37 rfl ?_
  refine zg_bipush (v := nI 100) dL_isOwn_38 (by decide) ?_
  refine zg_idivN dL_isOwn_40 (by omega) (by omega) (by omega) ?_
  rw [em]
  refine own_41 hm hb h0 ?_
  refine zg_iconst (v := nI 1) dL_isOwn_54 (by decide) ?_
  refine zg_goto (tgt := 59) dL_isOwn_55 rfl ?_
  refine zg_istore_n dL_isOwn_59 (by decide) ?_
  refine zg_st (pc' := 60) (L' := [some (.inr 0), some (.inr 20), some (.inl (nI (100 * m + b))), some (.inl (nI 1))]) (S' := []) (M' := (xm P (f1 c))) rfl rfl rfl rfl ?_
  refine zg_aload_n (x := 20) dL_isOwn_60 rfl ?_
  refine zg_iload_n (x := nI (100 * m + b)) dL_isOwn_61 rfl ?_
  refine zg_bipush (v := nI 100) dL_isOwn_62 (by decide) ?_
  refine zg_idivN dL_isOwn_64 (by omega) (by omega) (by omega) ?_
  rw [em]
  refine own_65 hm hb ?_
  refine zg_iload_n (x := nI 1) dL_isOwn_83 rfl ?_
  exact zg_iret dL_isOwn_84 rfl rfl ⟨by omega, by omega⟩ rfl
end
