/-! ===== by program (wip/p29/law_w.py): the law, behind its loop ===== -/
section
variable {q : ZQ} {b L : Nat} {xs : Nat → Int32} {p : Program} {e : Env} {s : State} {m : MethodId} {below : List Frame} {meth : Method} {c : Code}
/-- what is kept: the script, the pools, the arrays, how many things, that all is good, the count -/
def lwL (q : ZQ) (b T k : Nat) : List (Nat × Value) := [(0, .ref b), (1, .ref (q.2.2.2 0)), (2, .ref (q.2.2.2 20)), (3, .ref (q.2.2.2 40)), (4, .ref (q.2.2.2 41)), (5, .ref (q.2.2.2 42)), (6, .ref (q.2.2.2 43)), (7, .ref (q.2.2.2 44)), (8, .int (nI T)), (9, .int (nI 1)), (10, .int (nI k))]
set_option maxHeartbeats 4000000 in
set_option maxRecDepth 100000 in
theorem law_end (C : lwC q b L xs p s m meth c) {n : Int} {P R : Mem} {l h l' h' cc : Nat → Int32} {T k : Nat} {H : Heap} {locs : List Loc} {ls : Array Slot} {ce sl : Nat} (g : gdd n P l h) (hP : lwP q (LM P R (f5 l h l' h' cc)) H) (hS : va_S (lA0 s) s.heap H locs) (hl : lv_has ls 12 (lwL q b T k)) (hc : ce + 1000 ≤ 600130 ∧ sl + 7000 ≤ 7301080) : W p q.1 e room_1 s m #[Value.ref b] below meth c H locs ce sl (lw_Z below #[Value.ref b] s) (F0 m 170 ls []) := by
  have hq := C.2.2.2.2.1
  have g1 : gdd n (rP P 48) l h := gdd_ST g (rP_k g.1 48 (Nat.le_refl _)).1 (rP_k g.1 48 (Nat.le_refl _)).2.1
  have hT := TF_of g
  generalize hP1 : rP P 48 = P1 at g1
  obtain ⟨s1, s2, s3⟩ := scrub_twice g1.1
  have g2 : gdd n (f_X4_scrub P1).2 l h := gdd_ST g1 (g_scrub g1.1) (st_scrub g1.1)
  have g3 : gdd n (f_X4_scrub (f_X4_scrub P1).2).2 l h := gdd_ST g2 (g_scrub g2.1) (st_scrub g2.1)
  have hT3 := TF_of g3
  have g4 : gdd n (rP (f_X4_scrub (f_X4_scrub P1).2).2 48) l h := gdd_ST g3 (rP_k g3.1 48 (Nat.le_refl _)).1 (rP_k g3.1 48 (Nat.le_refl _)).2.1
  have hH4 := HF_of g4
  have hl : lv_has ls 12 [(0, .ref b), (1, .ref (q.2.2.2 0)), (2, .ref (q.2.2.2 20)), (3, .ref (q.2.2.2 40)), (4, .ref (q.2.2.2 41)), (5, .ref (q.2.2.2 42)), (6, .ref (q.2.2.2 43)), (7, .ref (q.2.2.2 44)), (8, .int (nI T)), (9, .int (nI 1)), (10, .int (nI k))] := hl
  refine lv_iload C.1.1 C.1.2.1 dL_law_170 (lv_at hl 9 rfl) ?_
  refine lv_if_eq (tgt := 187) C.1.1 C.1.2.1 dL_law_172 (by decide) (fun g => absurd g (by decide)) (fun _ => ?_)
  refine lv_aload_n C.1.1 C.1.2.1 dL_law_175 rfl (lv_at hl 1 rfl) ?_
  refine lv_aload_n C.1.1 C.1.2.1 dL_law_176 rfl (lv_at hl 3 rfl) ?_
  refine zl_call (As := [.inr 0, .inr 40]) (rest := []) (M := (LM P R (f5 l h l' h' cc))) (N := (LM (rP P 48) R (f5 l h l' h' cc))) (r := nI 1) C hP hS dL_law_177 (L_isTrue q hq hT) lk_isTrue zi_L_isTrue rfl ⟨by decide, by decide⟩ hl.1 rfl (Nat.le_of_ble_eq_true rfl) ⟨by omega, by omega⟩ (fun H locs hP hS => ?_)
  rw [hP1] at hP
  refine lv_if_eq (tgt := 187) C.1.1 C.1.2.1 dL_law_180 (by decide) (fun g => absurd g (by decide)) (fun _ => ?_)
  refine lv_iconst (v := nI 1) C.1.1 C.1.2.1 dL_law_183 (by decide) ?_
  refine lv_goto (tgt := 188) C.1.1 C.1.2.1 dL_law_184 (by decide) ?_
  refine lv_istore (lv' := [(9, .int (nI 1)), (0, .ref b), (1, .ref (q.2.2.2 0)), (2, .ref (q.2.2.2 20)), (3, .ref (q.2.2.2 40)), (4, .ref (q.2.2.2 41)), (5, .ref (q.2.2.2 42)), (6, .ref (q.2.2.2 43)), (7, .ref (q.2.2.2 44)), (8, .int (nI T)), (10, .int (nI k))]) C.1.1 C.1.2.1 dL_law_188 hl (by decide) rfl (fun ls hl => ?_)
  refine lv_aload_n C.1.1 C.1.2.1 dL_law_190 rfl (lv_at hl 2 rfl) ?_
  refine zl_callV (As := []) (rest := []) (k := 0) (M := (LM P1 R (f5 l h l' h' cc))) (N := (LM P1 R (f5 l h l' h' cc))) (r := f_X4_lost P1) C hP hS dL_law_191 (L_lost q P1 R (f5 l h l' h' cc)) lk_lost rfl rfl ⟨by decide, by decide⟩ hl.1 rfl (Nat.le_of_ble_eq_true rfl) ⟨by omega, by omega⟩ (fun H locs hP hS => ?_)
  refine lv_istore (lv' := [(10, .int (f_X4_lost P1)), (9, .int (nI 1)), (0, .ref b), (1, .ref (q.2.2.2 0)), (2, .ref (q.2.2.2 20)), (3, .ref (q.2.2.2 40)), (4, .ref (q.2.2.2 41)), (5, .ref (q.2.2.2 42)), (6, .ref (q.2.2.2 43)), (7, .ref (q.2.2.2 44)), (8, .int (nI T))]) C.1.1 C.1.2.1 dL_law_194 hl (by decide) rfl (fun ls hl => ?_)
  refine lv_iload C.1.1 C.1.2.1 dL_law_196 (lv_at hl 1 rfl) ?_
  refine lv_if_eq (tgt := 248) C.1.1 C.1.2.1 dL_law_198 (by decide) (fun g => absurd g (by decide)) (fun _ => ?_)
  refine lv_aload_n C.1.1 C.1.2.1 dL_law_201 rfl (lv_at hl 3 rfl) ?_
  refine zl_callV (As := []) (rest := []) (k := 0) (M := (LM P1 R (f5 l h l' h' cc))) (N := (LM (f_X4_scrub P1).2 R (f5 l h l' h' cc))) (r := (f_X4_scrub P1).1) C hP hS dL_law_202 (L_scrub q P1 R (f5 l h l' h' cc)) lk_scrub rfl rfl ⟨by decide, by decide⟩ hl.1 rfl (Nat.le_of_ble_eq_true rfl) ⟨by omega, by omega⟩ (fun H locs hP hS => ?_)
  refine lv_if_lt (tgt := 248) C.1.1 C.1.2.1 dL_law_205 (by decide) (fun g => absurd g s1) (fun _ => ?_)
  refine lv_aload_n C.1.1 C.1.2.1 dL_law_208 rfl (lv_at hl 3 rfl) ?_
  refine zl_callV (As := []) (rest := []) (k := 0) (M := (LM (f_X4_scrub P1).2 R (f5 l h l' h' cc))) (N := (LM (f_X4_scrub (f_X4_scrub P1).2).2 R (f5 l h l' h' cc))) (r := (f_X4_scrub (f_X4_scrub P1).2).1) C hP hS dL_law_209 (L_scrub q (f_X4_scrub P1).2 R (f5 l h l' h' cc)) lk_scrub rfl rfl ⟨by decide, by decide⟩ hl.1 rfl (Nat.le_of_ble_eq_true rfl) ⟨by omega, by omega⟩ (fun H locs hP hS => ?_)
  refine lv_if_ne (tgt := 248) C.1.1 C.1.2.1 dL_law_212 (by decide) (fun g => absurd g (fun z => z s2)) (fun _ => ?_)
  refine lv_aload_n C.1.1 C.1.2.1 dL_law_215 rfl (lv_at hl 3 rfl) ?_
  refine zl_callV (As := []) (rest := []) (k := 0) (M := (LM (f_X4_scrub (f_X4_scrub P1).2).2 R (f5 l h l' h' cc))) (N := (LM (f_X4_scrub (f_X4_scrub P1).2).2 R (f5 l h l' h' cc))) (r := f_X4_lost (f_X4_scrub (f_X4_scrub P1).2).2) C hP hS dL_law_216 (L_lost q (f_X4_scrub (f_X4_scrub P1).2).2 R (f5 l h l' h' cc)) lk_lost rfl rfl ⟨by decide, by decide⟩ hl.1 rfl (Nat.le_of_ble_eq_true rfl) ⟨by omega, by omega⟩ (fun H locs hP hS => ?_)
  refine lv_iload C.1.1 C.1.2.1 dL_law_219 (lv_at hl 0 rfl) ?_
  refine lv_icmp_ne (tgt := 248) C.1.1 C.1.2.1 dL_law_221 (by decide) (fun g => absurd g (fun z => z s3)) (fun _ => ?_)
  refine lv_aload_n C.1.1 C.1.2.1 dL_law_224 rfl (lv_at hl 3 rfl) ?_
  refine lv_aload_n C.1.1 C.1.2.1 dL_law_225 rfl (lv_at hl 5 rfl) ?_
  refine zl_call (As := [.inr 0, .inr 40]) (rest := []) (M := (LM (f_X4_scrub (f_X4_scrub P1).2).2 R (f5 l h l' h' cc))) (N := (LM (rP (f_X4_scrub (f_X4_scrub P1).2).2 48) R (f5 l h l' h' cc))) (r := nI 1) C hP hS dL_law_226 (L_isTrue q hq hT3) lk_isTrue zi_L_isTrue rfl ⟨by decide, by decide⟩ hl.1 rfl (Nat.le_of_ble_eq_true rfl) ⟨by omega, by omega⟩ (fun H locs hP hS => ?_)
  refine lv_if_eq (tgt := 248) C.1.1 C.1.2.1 dL_law_229 (by decide) (fun g => absurd g (by decide)) (fun _ => ?_)
  refine lv_aload_n C.1.1 C.1.2.1 dL_law_232 rfl (lv_at hl 3 rfl) ?_
  refine lv_aload_n C.1.1 C.1.2.1 dL_law_233 rfl (lv_at hl 5 rfl) ?_
  refine lv_aload C.1.1 C.1.2.1 dL_law_234 (lv_at hl 6 rfl) ?_
  refine lv_aload C.1.1 C.1.2.1 dL_law_236 (lv_at hl 9 rfl) ?_
  refine zl_call (As := [.inr 0, .inr 40, .inr 41, .inr 44]) (rest := []) (M := (LM (rP (f_X4_scrub (f_X4_scrub P1).2).2 48) R (f5 l h l' h' cc))) (N := (LM (rP (f_X4_scrub (f_X4_scrub P1).2).2 48) R (f5 l h l' h' (cs (rP (f_X4_scrub (f_X4_scrub P1).2).2 48) cc 53)))) (r := nI 1) C hP hS dL_law_238 (L_holds1 q hq hH4) lk_holds zi_L_holds rfl ⟨by decide, by decide⟩ hl.1 rfl (Nat.le_of_ble_eq_true rfl) ⟨by omega, by omega⟩ (fun H locs hP hS => ?_)
  refine lv_if_eq (tgt := 248) C.1.1 C.1.2.1 dL_law_241 (by decide) (fun g => absurd g (by decide)) (fun _ => ?_)
  refine lv_iconst (v := nI 1) C.1.1 C.1.2.1 dL_law_244 (by decide) ?_
  refine lv_goto (tgt := 249) C.1.1 C.1.2.1 dL_law_245 (by decide) ?_
  refine lv_istore (lv' := [(9, .int (nI 1)), (10, .int (f_X4_lost P1)), (0, .ref b), (1, .ref (q.2.2.2 0)), (2, .ref (q.2.2.2 20)), (3, .ref (q.2.2.2 40)), (4, .ref (q.2.2.2 41)), (5, .ref (q.2.2.2 42)), (6, .ref (q.2.2.2 43)), (7, .ref (q.2.2.2 44)), (8, .int (nI T))]) C.1.1 C.1.2.1 dL_law_249 hl (by decide) rfl (fun ls hl => ?_)
  refine lv_iload C.1.1 C.1.2.1 dL_law_251 (lv_at hl 0 rfl) ?_
  refine lv_if_eq (tgt := 274) C.1.1 C.1.2.1 dL_law_253 (by decide) (fun g => absurd g (by decide)) (fun _ => ?_)
  refine lv_aload_n C.1.1 C.1.2.1 dL_law_256 rfl (lv_at hl 2 rfl) ?_
  refine lv_iconst (v := nI 0) C.1.1 C.1.2.1 dL_law_257 (by decide) ?_
  refine zl_drawn (rest := []) C hP hS dL_law_258 (by omega) hl.1 (Nat.le_of_ble_eq_true rfl) ⟨by omega, by omega⟩ (fun X H locs hX hP hS => ?_)
  refine lv_bipush (v := nI 37) C.1.1 C.1.2.1 dL_law_261 (by decide) ?_
  refine lv_idiv C.1.1 C.1.2.1 dL_law_263 (by decide) ?_
  rw [pk_div (a := X) (d := 37) (by omega) (by decide) (by decide)]
  refine zl_call (As := [.inl (nI (X / 37))]) (rest := []) (M := (LM (rP (f_X4_scrub (f_X4_scrub P1).2).2 48) R (f5 l h l' h' (cs (rP (f_X4_scrub (f_X4_scrub P1).2).2 48) cc 53)))) (N := (LM (rP (f_X4_scrub (f_X4_scrub P1).2).2 48) R (f5 l h l' h' (cs (rP (f_X4_scrub (f_X4_scrub P1).2).2 48) cc 53)))) (r := nI 1) C hP hS dL_law_264 (L_sides q hq (X / 37) (by omega) (LM (rP (f_X4_scrub (f_X4_scrub P1).2).2 48) R (f5 l h l' h' (cs (rP (f_X4_scrub (f_X4_scrub P1).2).2 48) cc 53)))) lk_sides zi_L_sides rfl ⟨by decide, by decide⟩ hl.1 rfl (Nat.le_of_ble_eq_true rfl) ⟨by omega, by omega⟩ (fun H locs hP hS => ?_)
  refine lv_if_eq (tgt := 274) C.1.1 C.1.2.1 dL_law_267 (by decide) (fun g => absurd g (by decide)) (fun _ => ?_)
  refine lv_iconst (v := nI 1) C.1.1 C.1.2.1 dL_law_270 (by decide) ?_
  refine lv_goto (tgt := 275) C.1.1 C.1.2.1 dL_law_271 (by decide) ?_
  refine W.widen (k := 600130) (n := 7301080) (by omega) (by omega) ?_
  refine va_forget (fun q hq => hS.2.2 q hq) ?_
  exact lw_ret C.1.1 C.1.2.1 C.2.1.1 C.2.1.2 dL_law_275
end
