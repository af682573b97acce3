/-! ===== by program (wip/p29/law_w.py): the law, its loop ===== -/
section
variable {q : ZQ} {b L : Nat} {xs : Nat → Int32} {p : Program} {e : Env} {s : State} {m : MethodId} {below : List Frame} {meth : Method} {c : Code}
set_option maxHeartbeats 4000000 in
set_option maxRecDepth 100000 in
theorem law_loop (C : lwC q b L xs p s m meth c) {T : Nat} (hTT : T ≤ 50) : ∀ (n k : Nat) (P : Mem) (l h cc : Nat → Int32) (H : Heap) (locs : List Loc) (ls : Array Slot) (ce sl : Nat), k + n = T → gdd (1 + (k : Int)) P l h → lwP q (LM P P (f5 l h l h cc)) H → va_S (lA0 s) s.heap H locs → lv_has ls 12 (lwL q b T k) → ce + (900 * n + 1000) ≤ 600130 ∧ sl + (5400 * n + 7000) ≤ 7301080 → W p q.1 e room_1 s m #[Value.ref b] below meth c H locs ce sl (lw_Z below #[Value.ref b] s) (F0 m 63 ls []) := by
  have hq := C.2.2.2.2.1
  intro n
  induction n with
  | zero =>
    intro k P l h cc H locs ls ce sl hk g hP hS hl hc
    have hl0 := hl
    have hl : lv_has ls 12 [(0, .ref b), (1, .ref (q.2.2.2 0)), (2, .ref (q.2.2.2 20)), (3, .ref (q.2.2.2 40)), (4, .ref (q.2.2.2 41)), (5, .ref (q.2.2.2 42)), (6, .ref (q.2.2.2 43)), (7, .ref (q.2.2.2 44)), (8, .int (nI T)), (9, .int (nI 1)), (10, .int (nI k))] := hl
    refine lv_iload C.1.1 C.1.2.1 dL_law_63 (lv_at hl 10 rfl) ?_
    refine lv_iload C.1.1 C.1.2.1 dL_law_65 (lv_at hl 8 rfl) ?_
    refine lv_icmp_ge (tgt := 170) C.1.1 C.1.2.1 dL_law_67 (by decide) (fun _ => ?_) (fun g => absurd g (fun z => z (nI_le (by omega) (by omega))))
    exact law_end C g hP hS hl0 ⟨by omega, by omega⟩
  | succ n ih =>
    intro k P l h cc H locs ls ce sl hk g hP hS hl hc
    have hl : lv_has ls 12 [(0, .ref b), (1, .ref (q.2.2.2 0)), (2, .ref (q.2.2.2 20)), (3, .ref (q.2.2.2 40)), (4, .ref (q.2.2.2 41)), (5, .ref (q.2.2.2 42)), (6, .ref (q.2.2.2 43)), (7, .ref (q.2.2.2 44)), (8, .int (nI T)), (9, .int (nI 1)), (10, .int (nI k))] := hl
    refine lv_iload C.1.1 C.1.2.1 dL_law_63 (lv_at hl 10 rfl) ?_
    refine lv_iload C.1.1 C.1.2.1 dL_law_65 (lv_at hl 8 rfl) ?_
    refine lv_icmp_ge (tgt := 170) C.1.1 C.1.2.1 dL_law_67 (by decide) (fun g => absurd g (nI_ge (by omega) (by omega))) (fun _ => ?_)
    refine lv_iload C.1.1 C.1.2.1 dL_law_70 (lv_at hl 9 rfl) ?_
    refine lv_if_eq (tgt := 170) C.1.1 C.1.2.1 dL_law_72 (by decide) (fun g => absurd g (by decide)) (fun _ => ?_)
    refine lv_aload_n C.1.1 C.1.2.1 dL_law_75 rfl (lv_at hl 0 rfl) ?_
    refine lv_iconst (v := nI 1) C.1.1 C.1.2.1 dL_law_76 (by decide) ?_
    refine lv_iload C.1.1 C.1.2.1 dL_law_77 (lv_at hl 10 rfl) ?_
    refine lv_iadd C.1.1 C.1.2.1 dL_law_79 ?_
    rw [nI_add]
    refine zl_drawn (rest := []) C hP hS dL_law_80 (by omega) hl.1 (Nat.le_of_ble_eq_true rfl) ⟨by omega, by omega⟩ (fun X H locs hX hP hS => ?_)
    refine lv_istore (lv' := [(11, .int (nI X)), (0, .ref b), (1, .ref (q.2.2.2 0)), (2, .ref (q.2.2.2 20)), (3, .ref (q.2.2.2 40)), (4, .ref (q.2.2.2 41)), (5, .ref (q.2.2.2 42)), (6, .ref (q.2.2.2 43)), (7, .ref (q.2.2.2 44)), (8, .int (nI T)), (9, .int (nI 1)), (10, .int (nI k))]) C.1.1 C.1.2.1 dL_law_83 hl (by decide) rfl (fun ls hl => ?_)
    obtain ⟨v, P', l', h', hz⟩ : ∃ (v : Int32) (P' : Mem) (l' h' : Nat → Int32), f_act X P l h = (v, P', l', h') := ⟨_, _, _, _, rfl⟩
    have g' : gdd (1 + (k : Int) + 1) P' l' h' := by have g9 := act_good g (by omega) X; rw [hz] at g9; exact g9
    have hH := HF_of g'
    refine lv_aload_n C.1.1 C.1.2.1 dL_law_85 rfl (lv_at hl 3 rfl) ?_
    refine lv_iload C.1.1 C.1.2.1 dL_law_86 (lv_at hl 0 rfl) ?_
    refine lv_sipush (v := nI 9973) C.1.1 C.1.2.1 dL_law_88 (by decide) ?_
    refine lv_irem C.1.1 C.1.2.1 dL_law_91 (by decide) ?_
    rw [pk_rem (a := X) (d := 9973) (by omega) (by decide) (by decide)]
    refine zl_call (As := [.inr 20, .inl (nI (X % 9973))]) (rest := []) (M := (LM P P (f5 l h l h cc))) (N := (LM P P (f5 l h l h cc))) (r := nI 1) C hP hS dL_law_92 (L_ref q hq (X % 9973) (by omega) P P (f5 l h l h cc)) lk_refuses zi_L_refuses rfl ⟨by decide, by decide⟩ hl.1 rfl (Nat.le_of_ble_eq_true rfl) ⟨by omega, by omega⟩ (fun H locs hP hS => ?_)
    refine lv_if_eq (tgt := 161) C.1.1 C.1.2.1 dL_law_95 (by decide) (fun g => absurd g (by decide)) (fun _ => ?_)
    refine lv_aload_n C.1.1 C.1.2.1 dL_law_98 rfl (lv_at hl 2 rfl) ?_
    refine lv_iload C.1.1 C.1.2.1 dL_law_99 (lv_at hl 0 rfl) ?_
    refine lv_aload_n C.1.1 C.1.2.1 dL_law_101 rfl (lv_at hl 4 rfl) ?_
    refine lv_aload C.1.1 C.1.2.1 dL_law_102 (lv_at hl 5 rfl) ?_
    refine zl_call (As := [.inr 0, .inl (nI X), .inr 40, .inr 41]) (rest := []) (M := (LM P P (f5 l h l h cc))) (N := (LM P' P (f5 l' h' l h cc))) (r := v) C hP hS dL_law_104 (L_act1 q hq X hX hz) lk_act zi_L_act rfl ⟨by decide, by decide⟩ hl.1 rfl (Nat.le_of_ble_eq_true rfl) ⟨by omega, by omega⟩ (fun H locs hP hS => ?_)
    refine lv_aload_n C.1.1 C.1.2.1 dL_law_107 rfl (lv_at hl 3 rfl) ?_
    refine lv_iload C.1.1 C.1.2.1 dL_law_108 (lv_at hl 0 rfl) ?_
    refine lv_aload C.1.1 C.1.2.1 dL_law_110 (lv_at hl 6 rfl) ?_
    refine lv_aload C.1.1 C.1.2.1 dL_law_112 (lv_at hl 7 rfl) ?_
    refine zl_call (As := [.inr 20, .inl (nI X), .inr 42, .inr 43]) (rest := [.int (v)]) (M := (LM P' P (f5 l' h' l h cc))) (N := (LM P' P' (f5 l' h' l' h' cc))) (r := v) C hP hS dL_law_114 (L_act2 q hq X hX hz) lk_act zi_L_act rfl ⟨by decide, by decide⟩ hl.1 rfl (Nat.le_of_ble_eq_true rfl) ⟨by omega, by omega⟩ (fun H locs hP hS => ?_)
    refine lv_icmp_ne (tgt := 161) C.1.1 C.1.2.1 dL_law_117 (by decide) (fun g => absurd g (fun z => z rfl)) (fun _ => ?_)
    refine lv_aload_n C.1.1 C.1.2.1 dL_law_120 rfl (lv_at hl 3 rfl) ?_
    refine lv_iload C.1.1 C.1.2.1 dL_law_121 (lv_at hl 0 rfl) ?_
    refine lv_sipush (v := nI 499) C.1.1 C.1.2.1 dL_law_123 (by decide) ?_
    refine lv_irem C.1.1 C.1.2.1 dL_law_126 (by decide) ?_
    rw [pk_rem (a := X) (d := 499) (by omega) (by decide) (by decide)]
    refine zl_call (As := [.inr 20, .inl (nI (X % 499))]) (rest := []) (M := (LM P' P' (f5 l' h' l' h' cc))) (N := (LM P' P' (f5 l' h' l' h' cc))) (r := nI 1) C hP hS dL_law_127 (L_ref q hq (X % 499) (by omega) P' P' (f5 l' h' l' h' cc)) lk_refuses zi_L_refuses rfl ⟨by decide, by decide⟩ hl.1 rfl (Nat.le_of_ble_eq_true rfl) ⟨by omega, by omega⟩ (fun H locs hP hS => ?_)
    refine lv_if_eq (tgt := 161) C.1.1 C.1.2.1 dL_law_130 (by decide) (fun g => absurd g (by decide)) (fun _ => ?_)
    refine lv_aload_n C.1.1 C.1.2.1 dL_law_133 rfl (lv_at hl 2 rfl) ?_
    refine lv_aload_n C.1.1 C.1.2.1 dL_law_134 rfl (lv_at hl 3 rfl) ?_
    refine lv_iload C.1.1 C.1.2.1 dL_law_135 (lv_at hl 0 rfl) ?_
    refine lv_iconst (v := nI 5) C.1.1 C.1.2.1 dL_law_137 (by decide) ?_
    refine lv_idiv C.1.1 C.1.2.1 dL_law_138 (by decide) ?_
    rw [pk_div (a := X) (d := 5) (by omega) (by decide) (by decide)]
    refine zl_call (As := [.inr 0, .inr 20, .inl (nI (X / 5))]) (rest := []) (M := (LM P' P' (f5 l' h' l' h' cc))) (N := (LM P' P' (f5 l' h' l' h' cc))) (r := nI 1) C hP hS dL_law_139 (L_alike q hq (X / 5) (by omega) P' (f5 l' h' l' h' cc)) lk_alike zi_L_alike rfl ⟨by decide, by decide⟩ hl.1 rfl (Nat.le_of_ble_eq_true rfl) ⟨by omega, by omega⟩ (fun H locs hP hS => ?_)
    refine lv_if_eq (tgt := 161) C.1.1 C.1.2.1 dL_law_142 (by decide) (fun g => absurd g (by decide)) (fun _ => ?_)
    refine lv_aload_n C.1.1 C.1.2.1 dL_law_145 rfl (lv_at hl 3 rfl) ?_
    refine lv_aload_n C.1.1 C.1.2.1 dL_law_146 rfl (lv_at hl 4 rfl) ?_
    refine lv_aload C.1.1 C.1.2.1 dL_law_147 (lv_at hl 5 rfl) ?_
    refine lv_aload C.1.1 C.1.2.1 dL_law_149 (lv_at hl 8 rfl) ?_
    refine zl_call (As := [.inr 20, .inr 40, .inr 41, .inr 44]) (rest := []) (M := (LM P' P' (f5 l' h' l' h' cc))) (N := (LM P' P' (f5 l' h' l' h' (cs P' cc 53)))) (r := nI 1) C hP hS dL_law_151 (L_holds2 q hq hH) lk_holds zi_L_holds rfl ⟨by decide, by decide⟩ hl.1 rfl (Nat.le_of_ble_eq_true rfl) ⟨by omega, by omega⟩ (fun H locs hP hS => ?_)
    refine lv_if_eq (tgt := 161) C.1.1 C.1.2.1 dL_law_154 (by decide) (fun g => absurd g (by decide)) (fun _ => ?_)
    refine lv_iconst (v := nI 1) C.1.1 C.1.2.1 dL_law_157 (by decide) ?_
    refine lv_goto (tgt := 162) C.1.1 C.1.2.1 dL_law_158 (by decide) ?_
    refine lv_istore (lv' := [(9, .int (nI 1)), (11, .int (nI X)), (0, .ref b), (1, .ref (q.2.2.2 0)), (2, .ref (q.2.2.2 20)), (3, .ref (q.2.2.2 40)), (4, .ref (q.2.2.2 41)), (5, .ref (q.2.2.2 42)), (6, .ref (q.2.2.2 43)), (7, .ref (q.2.2.2 44)), (8, .int (nI T)), (10, .int (nI k))]) C.1.1 C.1.2.1 dL_law_162 hl (by decide) rfl (fun ls hl => ?_)
    refine lv_iinc (v := nI (k + 1)) (lv' := [(10, .int (nI (k + 1))), (9, .int (nI 1)), (11, .int (nI X)), (0, .ref b), (1, .ref (q.2.2.2 0)), (2, .ref (q.2.2.2 20)), (3, .ref (q.2.2.2 40)), (4, .ref (q.2.2.2 41)), (5, .ref (q.2.2.2 42)), (6, .ref (q.2.2.2 43)), (7, .ref (q.2.2.2 44)), (8, .int (nI T))]) C.1.1 C.1.2.1 dL_law_164 hl (k := 11) rfl (nI_add k 1) (by decide) rfl (fun ls hl => ?_)
    refine lv_goto (tgt := 63) C.1.1 C.1.2.1 dL_law_167 (by decide) ?_
    exact ih (k + 1) P' l' h' _ H locs ls _ _ (by omega) (gdd_mono g' (by omega)) hP hS (lv_sub hl [3, 4, 5, 6, 7, 8, 9, 10, 11, 1, 0] rfl) ⟨by omega, by omega⟩
end
