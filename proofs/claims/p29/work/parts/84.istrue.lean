/-! ===== by program (wip/p29/istrue.py): everything is read ===== -/
section
def rP (P : Mem) : Nat → Mem
  | 0 => P
  | k + 1 => (f_X4_read (nI (k / 12)) (nI (k % 12)) (rP P k)).2
def TF (P : Mem) (l : Nat → Int32) : Prop :=
  (∀ k, k < 48 → eI (f_X4_read (nI (k / 12)) (nI (k % 12)) (rP P k)).1 = l k ∨ (eI (f_X4_read (nI (k / 12)) (nI (k % 12)) (rP P k)).1 = -9999003 ∧ (0 < f_X4_lost P ∨ l k = 0))) ∧ f_X4_lost (rP P 48) = f_X4_lost P
theorem it_10 (q : ZQ) (hq : q.1.stackTraces = false) (P : Mem) (l : Nat → Int32) (H : TF P l) : ∀ (n k ce sl : Nat), k + n = 48 → ce + n ≤ 50 ∧ sl + 6 * n ≤ 300 → Zg (zgU q) mL_isTrue 50 300 ce sl (.inl (some 1), xm (rP P 48) (f1 l)) 10 [some (.inr 0), some (.inr 20), some (.inl (nI 1)), some (.inl (f_X4_lost P)), some (.inl (nI k)), none] [] (xm (rP P k) (f1 l)) := by
  intro n
  induction n with
  | zero =>
    intro k ce sl hk h1
    have e : k = 48 := by omega
    subst e
    refine zg_iload (x := nI 48) dL_isTrue_10 rfl ?_
    refine zg_bipush (v := nI 48) dL_isTrue_12 (by decide) ?_
    refine zg_jt2 (tgt := 76) dL_isTrue_14 rfl (nI_le (Nat.le_refl _) (by decide)) ?_
    refine zg_iload_n (x := nI 1) dL_isTrue_76 rfl ?_
    refine zg_jf (tgt := 92) dL_isTrue_77 rfl (show ¬ (nI 1 = 0) by decide) ?_
    refine zg_aload_n (x := 0) dL_isTrue_80 rfl ?_
    refine zg_cV1 (As := []) (S := []) (k := 0) (v := f_X4_lost (rP P 48)) (N0 := (xm (rP P 48) (f1 l))) dL_isTrue_81 lk_lost (XUc (k_X4_lost q (rP P 48))) rfl rfl ⟨by decide, by decide⟩ ⟨by omega, by omega⟩ rfl (Nat.le_of_ble_eq_true rfl) ?_
    refine zg_st (pc' := 84) (L' := [some (.inr 0), some (.inr 20), some (.inl (nI 1)), some (.inl (f_X4_lost P)), some (.inl (nI 48)), none]) (S' := [.inl (f_X4_lost (rP P 48))]) (M' := (xm (rP P 48) (f1 l))) rfl rfl rfl rfl ?_
    refine zg_iload_n (x := f_X4_lost P) dL_isTrue_84 rfl ?_
    refine zg_jf2 (tgt := 92) dL_isTrue_85 rfl (fun z => z H.2) ?_
    refine zg_iconst (v := nI 1) dL_isTrue_88 (by decide) ?_
    refine zg_goto (tgt := 93) dL_isTrue_89 rfl ?_
    exact zg_iret dL_isTrue_93 rfl rfl ⟨by omega, by omega⟩ rfl
  | succ n ih =>
    intro k ce sl hk h1
    by_cases e : eI (f_X4_read (nI (k / 12)) (nI (k % 12)) (rP P k)).1 = l k
    · refine zg_iload (x := nI k) dL_isTrue_10 rfl ?_
      refine zg_bipush (v := nI 48) dL_isTrue_12 (by decide) ?_
      refine zg_jf2 (tgt := 76) dL_isTrue_14 rfl (nI_ge (by omega) (by decide)) ?_
      refine zg_iload_n (x := nI 1) dL_isTrue_17 rfl ?_
      refine zg_jf (tgt := 76) dL_isTrue_18 rfl (show ¬ (nI 1 = 0) by decide) ?_
      refine zg_aload_n (x := 0) dL_isTrue_21 rfl ?_
      refine zg_iload (x := nI k) dL_isTrue_22 rfl ?_
      refine zg_bipush (v := nI 12) dL_isTrue_24 (by decide) ?_
      refine zg_idivN dL_isTrue_26 (by omega) (by omega) (by omega) ?_
      refine zg_iload (x := nI k) dL_isTrue_27 rfl ?_
      refine zg_bipush (v := nI 12) dL_isTrue_29 (by decide) ?_
      refine zg_iremN dL_isTrue_31 (by omega) (by omega) (by omega) ?_
      refine zg_cW (As := [.inr 0, .inl (nI (k / 12)), .inl (nI (k % 12))]) (S := []) (k := eI (f_X4_read (nI (k / 12)) (nI (k % 12)) (rP P k)).1) (N := (xm (rP P (k + 1)) (f1 l))) dL_isTrue_32 (XU (w_reads q hq (nI (k / 12)) (nI (k % 12)) (rP P k))) lk_reads.1 lk_reads.2 zi_L_reads rfl ⟨by decide, by decide⟩ ⟨by omega, by omega⟩ rfl (Nat.le_of_ble_eq_true rfl) ?_
      refine zg_st (pc' := 35) (L' := [some (.inr 0), some (.inr 20), some (.inl (nI 1)), some (.inl (f_X4_lost P)), some (.inl (nI k)), none]) (S' := [.inl (eI (f_X4_read (nI (k / 12)) (nI (k % 12)) (rP P k)).1)]) (M' := (xm (rP P (k + 1)) (f1 l))) rfl rfl rfl rfl ?_
      refine zg_istore dL_isTrue_35 (by decide) ?_
      refine zg_st (pc' := 37) (L' := [some (.inr 0), some (.inr 20), some (.inl (nI 1)), some (.inl (f_X4_lost P)), some (.inl (nI k)), some (.inl (eI (f_X4_read (nI (k / 12)) (nI (k % 12)) (rP P k)).1))]) (S' := []) (M' := (xm (rP P (k + 1)) (f1 l))) rfl rfl rfl rfl ?_
      refine zg_iload (x := eI (f_X4_read (nI (k / 12)) (nI (k % 12)) (rP P k)).1) dL_isTrue_37 rfl ?_
      refine zg_aload_n (x := 20) dL_isTrue_39 rfl ?_
      refine zg_iload (x := nI k) dL_isTrue_40 rfl ?_
      refine zg_ialdN (n := 48) (v := (l k)) dL_isTrue_42 rfl (by omega) (by decide) rfl ?_
      refine zg_jt2 (tgt := 64) dL_isTrue_43 rfl e ?_
      refine zg_iconst (v := nI 1) dL_isTrue_64 (by decide) ?_
      refine zg_goto (tgt := 69) dL_isTrue_65 rfl ?_
      refine zg_istore_n dL_isTrue_69 (by decide) ?_
      refine zg_st (pc' := 70) (L' := [some (.inr 0), some (.inr 20), some (.inl (nI 1)), some (.inl (f_X4_lost P)), some (.inl (nI k)), some (.inl (eI (f_X4_read (nI (k / 12)) (nI (k % 12)) (rP P k)).1))]) (S' := []) (M' := (xm (rP P (k + 1)) (f1 l))) rfl rfl rfl rfl ?_
      refine zg_iincN (a := k) dL_isTrue_70 rfl (Nat.le_of_ble_eq_true rfl) ?_
      refine zg_st (pc' := 73) (L' := [some (.inr 0), some (.inr 20), some (.inl (nI 1)), some (.inl (f_X4_lost P)), some (.inl (nI (k + 1))), some (.inl (eI (f_X4_read (nI (k / 12)) (nI (k % 12)) (rP P k)).1))]) (S' := []) (M' := (xm (rP P (k + 1)) (f1 l))) rfl rfl rfl rfl ?_
      refine zg_drop (L' := [some (.inr 0), some (.inr 20), some (.inl (nI 1)), some (.inl (f_X4_lost P)), some (.inl (nI (k + 1))), none]) ⟨rfl, ⟨rfl, ⟨rfl, ⟨rfl, ⟨rfl, trivial⟩⟩⟩⟩⟩ ?_
      refine zg_goto (tgt := 10) dL_isTrue_73 rfl ?_
      exact ih (k + 1) _ _ (by omega) ⟨by omega, by omega⟩
    · obtain ⟨e3, e4⟩ := (H.1 k (by omega)).resolve_left e
      by_cases e5 : 0 < f_X4_lost P
      · refine zg_iload (x := nI k) dL_isTrue_10 rfl ?_
        refine zg_bipush (v := nI 48) dL_isTrue_12 (by decide) ?_
        refine zg_jf2 (tgt := 76) dL_isTrue_14 rfl (nI_ge (by omega) (by decide)) ?_
        refine zg_iload_n (x := nI 1) dL_isTrue_17 rfl ?_
        refine zg_jf (tgt := 76) dL_isTrue_18 rfl (show ¬ (nI 1 = 0) by decide) ?_
        refine zg_aload_n (x := 0) dL_isTrue_21 rfl ?_
        refine zg_iload (x := nI k) dL_isTrue_22 rfl ?_
        refine zg_bipush (v := nI 12) dL_isTrue_24 (by decide) ?_
        refine zg_idivN dL_isTrue_26 (by omega) (by omega) (by omega) ?_
        refine zg_iload (x := nI k) dL_isTrue_27 rfl ?_
        refine zg_bipush (v := nI 12) dL_isTrue_29 (by decide) ?_
        refine zg_iremN dL_isTrue_31 (by omega) (by omega) (by omega) ?_
        refine zg_cW (As := [.inr 0, .inl (nI (k / 12)), .inl (nI (k % 12))]) (S := []) (k := eI (f_X4_read (nI (k / 12)) (nI (k % 12)) (rP P k)).1) (N := (xm (rP P (k + 1)) (f1 l))) dL_isTrue_32 (XU (w_reads q hq (nI (k / 12)) (nI (k % 12)) (rP P k))) lk_reads.1 lk_reads.2 zi_L_reads rfl ⟨by decide, by decide⟩ ⟨by omega, by omega⟩ rfl (Nat.le_of_ble_eq_true rfl) ?_
        refine zg_st (pc' := 35) (L' := [some (.inr 0), some (.inr 20), some (.inl (nI 1)), some (.inl (f_X4_lost P)), some (.inl (nI k)), none]) (S' := [.inl (eI (f_X4_read (nI (k / 12)) (nI (k % 12)) (rP P k)).1)]) (M' := (xm (rP P (k + 1)) (f1 l))) rfl rfl rfl rfl ?_
        refine zg_istore dL_isTrue_35 (by decide) ?_
        refine zg_st (pc' := 37) (L' := [some (.inr 0), some (.inr 20), some (.inl (nI 1)), some (.inl (f_X4_lost P)), some (.inl (nI k)), some (.inl (eI (f_X4_read (nI (k / 12)) (nI (k % 12)) (rP P k)).1))]) (S' := []) (M' := (xm (rP P (k + 1)) (f1 l))) rfl rfl rfl rfl ?_
        refine zg_iload (x := eI (f_X4_read (nI (k / 12)) (nI (k % 12)) (rP P k)).1) dL_isTrue_37 rfl ?_
        refine zg_aload_n (x := 20) dL_isTrue_39 rfl ?_
        refine zg_iload (x := nI k) dL_isTrue_40 rfl ?_
        refine zg_ialdN (n := 48) (v := (l k)) dL_isTrue_42 rfl (by omega) (by decide) rfl ?_
        refine zg_jf2 (tgt := 64) dL_isTrue_43 rfl e ?_
        refine zg_iload (x := eI (f_X4_read (nI (k / 12)) (nI (k % 12)) (rP P k)).1) dL_isTrue_46 rfl ?_
        refine zg_ldc (v := (-9999003)) dL_isTrue_48 (zm2 115 (by decide +kernel) rfl) ?_
        refine zg_jf2 (tgt := 68) dL_isTrue_50 rfl (fun z => z e3) ?_
        refine zg_iload_n (x := f_X4_lost P) dL_isTrue_53 rfl ?_
        refine zg_jt (tgt := 64) dL_isTrue_54 rfl e5 ?_
        refine zg_iconst (v := nI 1) dL_isTrue_64 (by decide) ?_
        refine zg_goto (tgt := 69) dL_isTrue_65 rfl ?_
        refine zg_istore_n dL_isTrue_69 (by decide) ?_
        refine zg_st (pc' := 70) (L' := [some (.inr 0), some (.inr 20), some (.inl (nI 1)), some (.inl (f_X4_lost P)), some (.inl (nI k)), some (.inl (eI (f_X4_read (nI (k / 12)) (nI (k % 12)) (rP P k)).1))]) (S' := []) (M' := (xm (rP P (k + 1)) (f1 l))) rfl rfl rfl rfl ?_
        refine zg_iincN (a := k) dL_isTrue_70 rfl (Nat.le_of_ble_eq_true rfl) ?_
        refine zg_st (pc' := 73) (L' := [some (.inr 0), some (.inr 20), some (.inl (nI 1)), some (.inl (f_X4_lost P)), some (.inl (nI (k + 1))), some (.inl (eI (f_X4_read (nI (k / 12)) (nI (k % 12)) (rP P k)).1))]) (S' := []) (M' := (xm (rP P (k + 1)) (f1 l))) rfl rfl rfl rfl ?_
        refine zg_drop (L' := [some (.inr 0), some (.inr 20), some (.inl (nI 1)), some (.inl (f_X4_lost P)), some (.inl (nI (k + 1))), none]) ⟨rfl, ⟨rfl, ⟨rfl, ⟨rfl, ⟨rfl, trivial⟩⟩⟩⟩⟩ ?_
        refine zg_goto (tgt := 10) dL_isTrue_73 rfl ?_
        exact ih (k + 1) _ _ (by omega) ⟨by omega, by omega⟩
      · refine zg_iload (x := nI k) dL_isTrue_10 rfl ?_
        refine zg_bipush (v := nI 48) dL_isTrue_12 (by decide) ?_
        refine zg_jf2 (tgt := 76) dL_isTrue_14 rfl (nI_ge (by omega) (by decide)) ?_
        refine zg_iload_n (x := nI 1) dL_isTrue_17 rfl ?_
        refine zg_jf (tgt := 76) dL_isTrue_18 rfl (show ¬ (nI 1 = 0) by decide) ?_
        refine zg_aload_n (x := 0) dL_isTrue_21 rfl ?_
        refine zg_iload (x := nI k) dL_isTrue_22 rfl ?_
        refine zg_bipush (v := nI 12) dL_isTrue_24 (by decide) ?_
        refine zg_idivN dL_isTrue_26 (by omega) (by omega) (by omega) ?_
        refine zg_iload (x := nI k) dL_isTrue_27 rfl ?_
        refine zg_bipush (v := nI 12) dL_isTrue_29 (by decide) ?_
        refine zg_iremN dL_isTrue_31 (by omega) (by omega) (by omega) ?_
        refine zg_cW (As := [.inr 0, .inl (nI (k / 12)), .inl (nI (k % 12))]) (S := []) (k := eI (f_X4_read (nI (k / 12)) (nI (k % 12)) (rP P k)).1) (N := (xm (rP P (k + 1)) (f1 l))) dL_isTrue_32 (XU (w_reads q hq (nI (k / 12)) (nI (k % 12)) (rP P k))) lk_reads.1 lk_reads.2 zi_L_reads rfl ⟨by decide, by decide⟩ ⟨by omega, by omega⟩ rfl (Nat.le_of_ble_eq_true rfl) ?_
        refine zg_st (pc' := 35) (L' := [some (.inr 0), some (.inr 20), some (.inl (nI 1)), some (.inl (f_X4_lost P)), some (.inl (nI k)), none]) (S' := [.inl (eI (f_X4_read (nI (k / 12)) (nI (k % 12)) (rP P k)).1)]) (M' := (xm (rP P (k + 1)) (f1 l))) rfl rfl rfl rfl ?_
        refine zg_istore dL_isTrue_35 (by decide) ?_
        refine zg_st (pc' := 37) (L' := [some (.inr 0), some (.inr 20), some (.inl (nI 1)), some (.inl (f_X4_lost P)), some (.inl (nI k)), some (.inl (eI (f_X4_read (nI (k / 12)) (nI (k % 12)) (rP P k)).1))]) (S' := []) (M' := (xm (rP P (k + 1)) (f1 l))) rfl rfl rfl rfl ?_
        refine zg_iload (x := eI (f_X4_read (nI (k / 12)) (nI (k % 12)) (rP P k)).1) dL_isTrue_37 rfl ?_
        refine zg_aload_n (x := 20) dL_isTrue_39 rfl ?_
        refine zg_iload (x := nI k) dL_isTrue_40 rfl ?_
        refine zg_ialdN (n := 48) (v := (l k)) dL_isTrue_42 rfl (by omega) (by decide) rfl ?_
        refine zg_jf2 (tgt := 64) dL_isTrue_43 rfl e ?_
        refine zg_iload (x := eI (f_X4_read (nI (k / 12)) (nI (k % 12)) (rP P k)).1) dL_isTrue_46 rfl ?_
        refine zg_ldc (v := (-9999003)) dL_isTrue_48 (zm2 115 (by decide +kernel) rfl) ?_
        refine zg_jf2 (tgt := 68) dL_isTrue_50 rfl (fun z => z e3) ?_
        refine zg_iload_n (x := f_X4_lost P) dL_isTrue_53 rfl ?_
        refine zg_jf (tgt := 64) dL_isTrue_54 rfl e5 ?_
        refine zg_aload_n (x := 20) dL_isTrue_57 rfl ?_
        refine zg_iload (x := nI k) dL_isTrue_58 rfl ?_
        refine zg_ialdN (n := 48) (v := (l k)) dL_isTrue_60 rfl (by omega) (by decide) rfl ?_
        refine zg_jf (tgt := 68) dL_isTrue_61 rfl (fun z => z (e4.resolve_left e5)) ?_
        refine zg_iconst (v := nI 1) dL_isTrue_64 (by decide) ?_
        refine zg_goto (tgt := 69) dL_isTrue_65 rfl ?_
        refine zg_istore_n dL_isTrue_69 (by decide) ?_
        refine zg_st (pc' := 70) (L' := [some (.inr 0), some (.inr 20), some (.inl (nI 1)), some (.inl (f_X4_lost P)), some (.inl (nI k)), some (.inl (eI (f_X4_read (nI (k / 12)) (nI (k % 12)) (rP P k)).1))]) (S' := []) (M' := (xm (rP P (k + 1)) (f1 l))) rfl rfl rfl rfl ?_
        refine zg_iincN (a := k) dL_isTrue_70 rfl (Nat.le_of_ble_eq_true rfl) ?_
        refine zg_st (pc' := 73) (L' := [some (.inr 0), some (.inr 20), some (.inl (nI 1)), some (.inl (f_X4_lost P)), some (.inl (nI (k + 1))), some (.inl (eI (f_X4_read (nI (k / 12)) (nI (k % 12)) (rP P k)).1))]) (S' := []) (M' := (xm (rP P (k + 1)) (f1 l))) rfl rfl rfl rfl ?_
        refine zg_drop (L' := [some (.inr 0), some (.inr 20), some (.inl (nI 1)), some (.inl (f_X4_lost P)), some (.inl (nI (k + 1))), none]) ⟨rfl, ⟨rfl, ⟨rfl, ⟨rfl, ⟨rfl, trivial⟩⟩⟩⟩⟩ ?_
        refine zg_goto (tgt := 10) dL_isTrue_73 rfl ?_
        exact ih (k + 1) _ _ (by omega) ⟨by omega, by omega⟩
set_option maxRecDepth 100000 in
theorem k_isTrue (q : ZQ) (hq : q.1.stackTraces = false) (P : Mem) (l : Nat → Int32) (H : TF P l) : Zc (zgU q) mL_isTrue 50 300 [.inr 0, .inr 20] (xm P (f1 l)) (.inl (some 1), xm (rP P 48) (f1 l)) := by
  refine Zc.of (by decide) zi_L_isTrue.1 (Nat.le_of_ble_eq_true rfl) rfl ?_
  refine zg_iconst (v := nI 1) dL_isTrue_0 (by decide) ?_
  refine zg_istore_n dL_isTrue_1 (by decide) ?_
  refine zg_st (pc' := 2) (L' := [some (.inr 0), some (.inr 20), some (.inl (nI 1)), none, none, none]) (S' := []) (M' := (xm P (f1 l))) rfl rfl rfl rfl ?_
  refine zg_aload_n (x := 0) dL_isTrue_2 rfl ?_
  refine zg_cV1 (As := []) (S := []) (k := 0) (v := f_X4_lost P) (N0 := (xm P (f1 l))) dL_isTrue_3 lk_lost (XUc (k_X4_lost q P)) rfl rfl ⟨by decide, by decide⟩ ⟨by omega, by omega⟩ rfl (Nat.le_of_ble_eq_true rfl) ?_
  refine zg_st (pc' := 6) (L' := [some (.inr 0), some (.inr 20), some (.inl (nI 1)), none, none, none]) (S' := [.inl (f_X4_lost P)]) (M' := (xm P (f1 l))) rfl rfl rfl rfl ?_
  refine zg_istore_n dL_isTrue_6 (by decide) ?_
  refine zg_st (pc' := 7) (L' := [some (.inr 0), some (.inr 20), some (.inl (nI 1)), some (.inl (f_X4_lost P)), none, none]) (S' := []) (M' := (xm P (f1 l))) rfl rfl rfl rfl ?_
  refine zg_iconst (v := nI 0) dL_isTrue_7 (by decide) ?_
  refine zg_istore dL_isTrue_8 (by decide) ?_
  refine zg_st (pc' := 10) (L' := [some (.inr 0), some (.inr 20), some (.inl (nI 1)), some (.inl (f_X4_lost P)), some (.inl (nI 0)), none]) (S' := []) (M' := (xm P (f1 l))) rfl rfl rfl rfl ?_
  exact it_10 q hq P l H 48 0 0 0 (by omega) ⟨by omega, by omega⟩
end
