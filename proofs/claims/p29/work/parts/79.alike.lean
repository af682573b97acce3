/-! ===== by program (wip/p29/alike.py): two pools alike ===== -/
section
theorem al_192 (q : ZQ) (hq : q.1.stackTraces = false) (X : Nat) (hX : X < 2 ^ 31) (P : Mem) : ∀ (n k ce sl : Nat), k + n = 48 → ce + 4 * n ≤ 250 ∧ sl + 24 * n ≤ 1500 → Zg (zgT q) mL_alike 250 1500 ce sl (.inl (some 1), dm P P) 192 [some (.inr 0), some (.inr 20), some (.inl (nI X)), some (.inl (nI 1)), some (.inl (nI k))] [] (dm P P) := by
  intro n
  induction n with
  | zero =>
    intro k ce sl hk hc
    have e : k = 48 := by omega
    subst e
    refine zg_iload (x := nI 48) dL_alike_192 rfl ?_
    refine zg_bipush (v := nI 48) dL_alike_194 (by decide) ?_
    refine zg_jt2 (tgt := 279) dL_alike_196 rfl (nI_le (Nat.le_refl _) (by decide)) ?_
    refine zg_iload_n (x := nI 1) dL_alike_279 rfl ?_
    exact zg_iret dL_alike_280 rfl rfl ⟨by omega, by omega⟩ rfl
  | succ n ih =>
    intro k ce sl hk hc
    refine zg_iload (x := nI k) dL_alike_192 rfl ?_
    refine zg_bipush (v := nI 48) dL_alike_194 (by decide) ?_
    refine zg_jf2 (tgt := 279) dL_alike_196 rfl (nI_ge (by omega) (by decide)) ?_
    refine zg_iload_n (x := nI 1) dL_alike_199 rfl ?_
    refine zg_jf (tgt := 279) dL_alike_200 rfl (show ¬ (nI 1 = 0) by decide) ?_
    refine zg_aload_n (x := 0) dL_alike_203 rfl ?_
    refine zg_iload (x := nI k) dL_alike_204 rfl ?_
    refine zg_bipush (v := nI 12) dL_alike_206 (by decide) ?_
    refine zg_idivN dL_alike_208 (by omega) (by omega) (by omega) ?_
    refine zg_iload (x := nI k) dL_alike_209 rfl ?_
    refine zg_bipush (v := nI 12) dL_alike_211 (by decide) ?_
    refine zg_iremN dL_alike_213 (by omega) (by omega) (by omega) ?_
    refine zg_iconst (v := nI 0) dL_alike_214 (by decide) ?_
    refine zg_cW (As := [.inr 0, .inl (nI (k / 12)), .inl (nI (k % 12)), .inl (nI 0)]) (S := []) (k := eI (f_X4_place (nI (k / 12)) (nI (k % 12)) (nI 0) P)) (N := (dm P P)) dL_alike_215 (T0 (w_place q hq (nI (k / 12)) (nI (k % 12)) (nI 0) P)) lk_place.1 lk_place.2 zi_L_place rfl ⟨by decide, by decide⟩ ⟨by omega, by omega⟩ rfl (Nat.le_of_ble_eq_true rfl) ?_
    refine zg_st (pc' := 218) (L' := [some (.inr 0), some (.inr 20), some (.inl (nI X)), some (.inl (nI 1)), some (.inl (nI k))]) (S' := [.inl (eI (f_X4_place (nI (k / 12)) (nI (k % 12)) (nI 0) P))]) (M' := (dm P P)) rfl rfl rfl rfl ?_
    refine zg_aload_n (x := 20) dL_alike_218 rfl ?_
    refine zg_iload (x := nI k) dL_alike_219 rfl ?_
    refine zg_bipush (v := nI 12) dL_alike_221 (by decide) ?_
    refine zg_idivN dL_alike_223 (by omega) (by omega) (by omega) ?_
    refine zg_iload (x := nI k) dL_alike_224 rfl ?_
    refine zg_bipush (v := nI 12) dL_alike_226 (by decide) ?_
    refine zg_iremN dL_alike_228 (by omega) (by omega) (by omega) ?_
    refine zg_iconst (v := nI 0) dL_alike_229 (by decide) ?_
    refine zg_cW (As := [.inr 20, .inl (nI (k / 12)), .inl (nI (k % 12)), .inl (nI 0)]) (S := [.inl (eI (f_X4_place (nI (k / 12)) (nI (k % 12)) (nI 0) P))]) (k := eI (f_X4_place (nI (k / 12)) (nI (k % 12)) (nI 0) P)) (N := (dm P P)) dL_alike_230 (T1 (w_place (zsh 20 q) hq (nI (k / 12)) (nI (k % 12)) (nI 0) P)) lk_place.1 lk_place.2 zi_L_place rfl ⟨by decide, by decide⟩ ⟨by omega, by omega⟩ rfl (Nat.le_of_ble_eq_true rfl) ?_
    refine zg_st (pc' := 233) (L' := [some (.inr 0), some (.inr 20), some (.inl (nI X)), some (.inl (nI 1)), some (.inl (nI k))]) (S' := [.inl (eI (f_X4_place (nI (k / 12)) (nI (k % 12)) (nI 0) P)), .inl (eI (f_X4_place (nI (k / 12)) (nI (k % 12)) (nI 0) P))]) (M' := (dm P P)) rfl rfl rfl rfl ?_
    refine zg_jf2 (tgt := 271) dL_alike_233 rfl (fun z => z rfl) ?_
    refine zg_aload_n (x := 0) dL_alike_236 rfl ?_
    refine zg_iload (x := nI k) dL_alike_237 rfl ?_
    refine zg_bipush (v := nI 12) dL_alike_239 (by decide) ?_
    refine zg_idivN dL_alike_241 (by omega) (by omega) (by omega) ?_
    refine zg_iload (x := nI k) dL_alike_242 rfl ?_
    refine zg_bipush (v := nI 12) dL_alike_244 (by decide) ?_
    refine zg_iremN dL_alike_246 (by omega) (by omega) (by omega) ?_
    refine zg_cW (As := [.inr 0, .inl (nI (k / 12)), .inl (nI (k % 12))]) (S := []) (k := eI (f_X4_birth (nI (k / 12)) (nI (k % 12)) P)) (N := (dm P P)) dL_alike_247 (T0 (w_birth q hq (nI (k / 12)) (nI (k % 12)) P)) lk_birth.1 lk_birth.2 zi_L_birth rfl ⟨by decide, by decide⟩ ⟨by omega, by omega⟩ rfl (Nat.le_of_ble_eq_true rfl) ?_
    refine zg_st (pc' := 250) (L' := [some (.inr 0), some (.inr 20), some (.inl (nI X)), some (.inl (nI 1)), some (.inl (nI k))]) (S' := [.inl (eI (f_X4_birth (nI (k / 12)) (nI (k % 12)) P))]) (M' := (dm P P)) rfl rfl rfl rfl ?_
    refine zg_aload_n (x := 20) dL_alike_250 rfl ?_
    refine zg_iload (x := nI k) dL_alike_251 rfl ?_
    refine zg_bipush (v := nI 12) dL_alike_253 (by decide) ?_
    refine zg_idivN dL_alike_255 (by omega) (by omega) (by omega) ?_
    refine zg_iload (x := nI k) dL_alike_256 rfl ?_
    refine zg_bipush (v := nI 12) dL_alike_258 (by decide) ?_
    refine zg_iremN dL_alike_260 (by omega) (by omega) (by omega) ?_
    refine zg_cW (As := [.inr 20, .inl (nI (k / 12)), .inl (nI (k % 12))]) (S := [.inl (eI (f_X4_birth (nI (k / 12)) (nI (k % 12)) P))]) (k := eI (f_X4_birth (nI (k / 12)) (nI (k % 12)) P)) (N := (dm P P)) dL_alike_261 (T1 (w_birth (zsh 20 q) hq (nI (k / 12)) (nI (k % 12)) P)) lk_birth.1 lk_birth.2 zi_L_birth rfl ⟨by decide, by decide⟩ ⟨by omega, by omega⟩ rfl (Nat.le_of_ble_eq_true rfl) ?_
    refine zg_st (pc' := 264) (L' := [some (.inr 0), some (.inr 20), some (.inl (nI X)), some (.inl (nI 1)), some (.inl (nI k))]) (S' := [.inl (eI (f_X4_birth (nI (k / 12)) (nI (k % 12)) P)), .inl (eI (f_X4_birth (nI (k / 12)) (nI (k % 12)) P))]) (M' := (dm P P)) rfl rfl rfl rfl ?_
    refine zg_jf2 (tgt := 271) dL_alike_264 rfl (fun z => z rfl) ?_
    refine zg_iconst (v := nI 1) dL_alike_267 (by decide) ?_
    refine zg_goto (tgt := 272) dL_alike_268 rfl ?_
    refine zg_istore_n dL_alike_272 (by decide) ?_
    refine zg_st (pc' := 273) (L' := [some (.inr 0), some (.inr 20), some (.inl (nI X)), some (.inl (nI 1)), some (.inl (nI k))]) (S' := []) (M' := (dm P P)) rfl rfl rfl rfl ?_
    refine zg_iincN (a := k) dL_alike_273 rfl (Nat.le_of_ble_eq_true rfl) ?_
    refine zg_st (pc' := 276) (L' := [some (.inr 0), some (.inr 20), some (.inl (nI X)), some (.inl (nI 1)), some (.inl (nI (k + 1)))]) (S' := []) (M' := (dm P P)) rfl rfl rfl rfl ?_
    refine zg_goto (tgt := 192) dL_alike_276 rfl ?_
    exact ih (k + 1) _ _ (by omega) ⟨by omega, by omega⟩
theorem al_64 (q : ZQ) (hq : q.1.stackTraces = false) (X : Nat) (hX : X < 2 ^ 31) (P : Mem) : ∀ (n k ce sl : Nat), k + n = 4 → ce + (12 * n + 192) ≤ 250 ∧ sl + (72 * n + 1152) ≤ 1500 → Zg (zgT q) mL_alike 250 1500 ce sl (.inl (some 1), dm P P) 64 [some (.inr 0), some (.inr 20), some (.inl (nI X)), some (.inl (nI 1)), some (.inl (nI k))] [] (dm P P) := by
  intro n
  induction n with
  | zero =>
    intro k ce sl hk hc
    have e : k = 4 := by omega
    subst e
    refine zg_iload (x := nI 4) dL_alike_64 rfl ?_
    refine zg_iconst (v := nI 4) dL_alike_66 (by decide) ?_
    refine zg_jt2 (tgt := 189) dL_alike_67 rfl (nI_le (Nat.le_refl _) (by decide)) ?_
    refine zg_iconst (v := nI 0) dL_alike_189 (by decide) ?_
    refine zg_istore dL_alike_190 (by decide) ?_
    refine zg_st (pc' := 192) (L' := [some (.inr 0), some (.inr 20), some (.inl (nI X)), some (.inl (nI 1)), some (.inl (nI 0))]) (S' := []) (M' := (dm P P)) rfl rfl rfl rfl ?_
    exact al_192 q hq X hX P 48 0 _ _ (by omega) ⟨by omega, by omega⟩
  | succ n ih =>
    intro k ce sl hk hc
    by_cases h3 : k = 3
    · refine zg_iload (x := nI k) dL_alike_64 rfl ?_
      refine zg_iconst (v := nI 4) dL_alike_66 (by decide) ?_
      refine zg_jf2 (tgt := 189) dL_alike_67 rfl (nI_ge (by omega) (by decide)) ?_
      refine zg_iload_n (x := nI 1) dL_alike_70 rfl ?_
      refine zg_jf (tgt := 189) dL_alike_71 rfl (show ¬ (nI 1 = 0) by decide) ?_
      refine zg_aload_n (x := 0) dL_alike_74 rfl ?_
      refine zg_iload (x := nI k) dL_alike_75 rfl ?_
      refine zg_cW (As := [.inr 0, .inl (nI k)]) (S := []) (k := eI (f_X4_checksum (nI k) P)) (N := (dm P P)) dL_alike_77 (T0 (w_sum q hq (nI k) P)) lk_sum.1 lk_sum.2 zi_L_sum rfl ⟨by decide, by decide⟩ ⟨by omega, by omega⟩ rfl (Nat.le_of_ble_eq_true rfl) ?_
      refine zg_st (pc' := 80) (L' := [some (.inr 0), some (.inr 20), some (.inl (nI X)), some (.inl (nI 1)), some (.inl (nI k))]) (S' := [.inl (eI (f_X4_checksum (nI k) P))]) (M' := (dm P P)) rfl rfl rfl rfl ?_
      refine zg_aload_n (x := 20) dL_alike_80 rfl ?_
      refine zg_iload (x := nI k) dL_alike_81 rfl ?_
      refine zg_cW (As := [.inr 20, .inl (nI k)]) (S := [.inl (eI (f_X4_checksum (nI k) P))]) (k := eI (f_X4_checksum (nI k) P)) (N := (dm P P)) dL_alike_83 (T1 (w_sum (zsh 20 q) hq (nI k) P)) lk_sum.1 lk_sum.2 zi_L_sum rfl ⟨by decide, by decide⟩ ⟨by omega, by omega⟩ rfl (Nat.le_of_ble_eq_true rfl) ?_
      refine zg_st (pc' := 86) (L' := [some (.inr 0), some (.inr 20), some (.inl (nI X)), some (.inl (nI 1)), some (.inl (nI k))]) (S' := [.inl (eI (f_X4_checksum (nI k) P)), .inl (eI (f_X4_checksum (nI k) P))]) (M' := (dm P P)) rfl rfl rfl rfl ?_
      refine zg_jf2 (tgt := 181) dL_alike_86 rfl (fun z => z rfl) ?_
      refine zg_aload_n (x := 0) dL_alike_89 rfl ?_
      refine zg_iload (x := nI k) dL_alike_90 rfl ?_
      refine zg_iconst (v := nI 1) dL_alike_92 (by decide) ?_
      refine zg_cW (As := [.inr 0, .inl (nI k), .inl (nI 1)]) (S := []) (k := eI (f_X4_nodePlace (nI k) (nI 1) P)) (N := (dm P P)) dL_alike_93 (T0 (w_nodePlace q hq (nI k) (nI 1) P)) lk_nodePlace.1 lk_nodePlace.2 zi_L_nodePlace rfl ⟨by decide, by decide⟩ ⟨by omega, by omega⟩ rfl (Nat.le_of_ble_eq_true rfl) ?_
      refine zg_st (pc' := 96) (L' := [some (.inr 0), some (.inr 20), some (.inl (nI X)), some (.inl (nI 1)), some (.inl (nI k))]) (S' := [.inl (eI (f_X4_nodePlace (nI k) (nI 1) P))]) (M' := (dm P P)) rfl rfl rfl rfl ?_
      refine zg_aload_n (x := 20) dL_alike_96 rfl ?_
      refine zg_iload (x := nI k) dL_alike_97 rfl ?_
      refine zg_iconst (v := nI 1) dL_alike_99 (by decide) ?_
      refine zg_cW (As := [.inr 20, .inl (nI k), .inl (nI 1)]) (S := [.inl (eI (f_X4_nodePlace (nI k) (nI 1) P))]) (k := eI (f_X4_nodePlace (nI k) (nI 1) P)) (N := (dm P P)) dL_alike_100 (T1 (w_nodePlace (zsh 20 q) hq (nI k) (nI 1) P)) lk_nodePlace.1 lk_nodePlace.2 zi_L_nodePlace rfl ⟨by decide, by decide⟩ ⟨by omega, by omega⟩ rfl (Nat.le_of_ble_eq_true rfl) ?_
      refine zg_st (pc' := 103) (L' := [some (.inr 0), some (.inr 20), some (.inl (nI X)), some (.inl (nI 1)), some (.inl (nI k))]) (S' := [.inl (eI (f_X4_nodePlace (nI k) (nI 1) P)), .inl (eI (f_X4_nodePlace (nI k) (nI 1) P))]) (M' := (dm P P)) rfl rfl rfl rfl ?_
      refine zg_jf2 (tgt := 181) dL_alike_103 rfl (fun z => z rfl) ?_
      refine zg_iload (x := nI k) dL_alike_106 rfl ?_
      refine zg_iconst (v := nI 3) dL_alike_108 (by decide) ?_
      refine zg_jt2 (tgt := 177) dL_alike_109 rfl (show nI k = nI 3 by rw [h3]) ?_
      refine zg_iconst (v := nI 1) dL_alike_177 (by decide) ?_
      refine zg_goto (tgt := 182) dL_alike_178 rfl ?_
      refine zg_istore_n dL_alike_182 (by decide) ?_
      refine zg_st (pc' := 183) (L' := [some (.inr 0), some (.inr 20), some (.inl (nI X)), some (.inl (nI 1)), some (.inl (nI k))]) (S' := []) (M' := (dm P P)) rfl rfl rfl rfl ?_
      refine zg_iincN (a := k) dL_alike_183 rfl (Nat.le_of_ble_eq_true rfl) ?_
      refine zg_st (pc' := 186) (L' := [some (.inr 0), some (.inr 20), some (.inl (nI X)), some (.inl (nI 1)), some (.inl (nI (k + 1)))]) (S' := []) (M' := (dm P P)) rfl rfl rfl rfl ?_
      refine zg_goto (tgt := 64) dL_alike_186 rfl ?_
      exact ih (k + 1) _ _ (by omega) ⟨by omega, by omega⟩
    · refine zg_iload (x := nI k) dL_alike_64 rfl ?_
      refine zg_iconst (v := nI 4) dL_alike_66 (by decide) ?_
      refine zg_jf2 (tgt := 189) dL_alike_67 rfl (nI_ge (by omega) (by decide)) ?_
      refine zg_iload_n (x := nI 1) dL_alike_70 rfl ?_
      refine zg_jf (tgt := 189) dL_alike_71 rfl (show ¬ (nI 1 = 0) by decide) ?_
      refine zg_aload_n (x := 0) dL_alike_74 rfl ?_
      refine zg_iload (x := nI k) dL_alike_75 rfl ?_
      refine zg_cW (As := [.inr 0, .inl (nI k)]) (S := []) (k := eI (f_X4_checksum (nI k) P)) (N := (dm P P)) dL_alike_77 (T0 (w_sum q hq (nI k) P)) lk_sum.1 lk_sum.2 zi_L_sum rfl ⟨by decide, by decide⟩ ⟨by omega, by omega⟩ rfl (Nat.le_of_ble_eq_true rfl) ?_
      refine zg_st (pc' := 80) (L' := [some (.inr 0), some (.inr 20), some (.inl (nI X)), some (.inl (nI 1)), some (.inl (nI k))]) (S' := [.inl (eI (f_X4_checksum (nI k) P))]) (M' := (dm P P)) rfl rfl rfl rfl ?_
      refine zg_aload_n (x := 20) dL_alike_80 rfl ?_
      refine zg_iload (x := nI k) dL_alike_81 rfl ?_
      refine zg_cW (As := [.inr 20, .inl (nI k)]) (S := [.inl (eI (f_X4_checksum (nI k) P))]) (k := eI (f_X4_checksum (nI k) P)) (N := (dm P P)) dL_alike_83 (T1 (w_sum (zsh 20 q) hq (nI k) P)) lk_sum.1 lk_sum.2 zi_L_sum rfl ⟨by decide, by decide⟩ ⟨by omega, by omega⟩ rfl (Nat.le_of_ble_eq_true rfl) ?_
      refine zg_st (pc' := 86) (L' := [some (.inr 0), some (.inr 20), some (.inl (nI X)), some (.inl (nI 1)), some (.inl (nI k))]) (S' := [.inl (eI (f_X4_checksum (nI k) P)), .inl (eI (f_X4_checksum (nI k) P))]) (M' := (dm P P)) rfl rfl rfl rfl ?_
      refine zg_jf2 (tgt := 181) dL_alike_86 rfl (fun z => z rfl) ?_
      refine zg_aload_n (x := 0) dL_alike_89 rfl ?_
      refine zg_iload (x := nI k) dL_alike_90 rfl ?_
      refine zg_iconst (v := nI 1) dL_alike_92 (by decide) ?_
      refine zg_cW (As := [.inr 0, .inl (nI k), .inl (nI 1)]) (S := []) (k := eI (f_X4_nodePlace (nI k) (nI 1) P)) (N := (dm P P)) dL_alike_93 (T0 (w_nodePlace q hq (nI k) (nI 1) P)) lk_nodePlace.1 lk_nodePlace.2 zi_L_nodePlace rfl ⟨by decide, by decide⟩ ⟨by omega, by omega⟩ rfl (Nat.le_of_ble_eq_true rfl) ?_
      refine zg_st (pc' := 96) (L' := [some (.inr 0), some (.inr 20), some (.inl (nI X)), some (.inl (nI 1)), some (.inl (nI k))]) (S' := [.inl (eI (f_X4_nodePlace (nI k) (nI 1) P))]) (M' := (dm P P)) rfl rfl rfl rfl ?_
      refine zg_aload_n (x := 20) dL_alike_96 rfl ?_
      refine zg_iload (x := nI k) dL_alike_97 rfl ?_
      refine zg_iconst (v := nI 1) dL_alike_99 (by decide) ?_
      refine zg_cW (As := [.inr 20, .inl (nI k), .inl (nI 1)]) (S := [.inl (eI (f_X4_nodePlace (nI k) (nI 1) P))]) (k := eI (f_X4_nodePlace (nI k) (nI 1) P)) (N := (dm P P)) dL_alike_100 (T1 (w_nodePlace (zsh 20 q) hq (nI k) (nI 1) P)) lk_nodePlace.1 lk_nodePlace.2 zi_L_nodePlace rfl ⟨by decide, by decide⟩ ⟨by omega, by omega⟩ rfl (Nat.le_of_ble_eq_true rfl) ?_
      refine zg_st (pc' := 103) (L' := [some (.inr 0), some (.inr 20), some (.inl (nI X)), some (.inl (nI 1)), some (.inl (nI k))]) (S' := [.inl (eI (f_X4_nodePlace (nI k) (nI 1) P)), .inl (eI (f_X4_nodePlace (nI k) (nI 1) P))]) (M' := (dm P P)) rfl rfl rfl rfl ?_
      refine zg_jf2 (tgt := 181) dL_alike_103 rfl (fun z => z rfl) ?_
      refine zg_iload (x := nI k) dL_alike_106 rfl ?_
      refine zg_iconst (v := nI 3) dL_alike_108 (by decide) ?_
      refine zg_jf2 (tgt := 177) dL_alike_109 rfl (fun z => h3 ((nI_eq (by omega) (by decide)).mp z)) ?_
      refine zg_aload_n (x := 0) dL_alike_112 rfl ?_
      refine zg_iload (x := nI k) dL_alike_113 rfl ?_
      refine zg_cW (As := [.inr 0, .inl (nI k)]) (S := []) (k := eI (f_X4_free (nI k) P)) (N := (dm P P)) dL_alike_115 (T0 (w_free q hq (nI k) P)) lk_free.1 lk_free.2 zi_L_free rfl ⟨by decide, by decide⟩ ⟨by omega, by omega⟩ rfl (Nat.le_of_ble_eq_true rfl) ?_
      refine zg_st (pc' := 118) (L' := [some (.inr 0), some (.inr 20), some (.inl (nI X)), some (.inl (nI 1)), some (.inl (nI k))]) (S' := [.inl (eI (f_X4_free (nI k) P))]) (M' := (dm P P)) rfl rfl rfl rfl ?_
      refine zg_aload_n (x := 20) dL_alike_118 rfl ?_
      refine zg_iload (x := nI k) dL_alike_119 rfl ?_
      refine zg_cW (As := [.inr 20, .inl (nI k)]) (S := [.inl (eI (f_X4_free (nI k) P))]) (k := eI (f_X4_free (nI k) P)) (N := (dm P P)) dL_alike_121 (T1 (w_free (zsh 20 q) hq (nI k) P)) lk_free.1 lk_free.2 zi_L_free rfl ⟨by decide, by decide⟩ ⟨by omega, by omega⟩ rfl (Nat.le_of_ble_eq_true rfl) ?_
      refine zg_st (pc' := 124) (L' := [some (.inr 0), some (.inr 20), some (.inl (nI X)), some (.inl (nI 1)), some (.inl (nI k))]) (S' := [.inl (eI (f_X4_free (nI k) P)), .inl (eI (f_X4_free (nI k) P))]) (M' := (dm P P)) rfl rfl rfl rfl ?_
      refine zg_jf2 (tgt := 181) dL_alike_124 rfl (fun z => z rfl) ?_
      refine zg_aload_n (x := 0) dL_alike_127 rfl ?_
      refine zg_iload (x := nI k) dL_alike_128 rfl ?_
      refine zg_iconst (v := nI 0) dL_alike_130 (by decide) ?_
      refine zg_iload_n (x := nI X) dL_alike_131 rfl ?_
      refine zg_bipush (v := nI 40) dL_alike_132 (by decide) ?_
      refine zg_iremN dL_alike_134 (by omega) (by omega) (by omega) ?_
      refine zg_cW (As := [.inr 0, .inl (nI k), .inl (nI 0), .inl (nI (X % 40))]) (S := []) (k := eB (f_X4_isSpoilt (nI k) (nI 0) (nI (X % 40)) P)) (N := (dm P P)) dL_alike_135 (T0 (w_spoilt q hq (nI k) (nI 0) (nI (X % 40)) P)) lk_spoilt.1 lk_spoilt.2 zi_L_spoilt rfl ⟨by decide, by decide⟩ ⟨by omega, by omega⟩ rfl (Nat.le_of_ble_eq_true rfl) ?_
      refine zg_st (pc' := 138) (L' := [some (.inr 0), some (.inr 20), some (.inl (nI X)), some (.inl (nI 1)), some (.inl (nI k))]) (S' := [.inl (eB (f_X4_isSpoilt (nI k) (nI 0) (nI (X % 40)) P))]) (M' := (dm P P)) rfl rfl rfl rfl ?_
      refine zg_aload_n (x := 20) dL_alike_138 rfl ?_
      refine zg_iload (x := nI k) dL_alike_139 rfl ?_
      refine zg_iconst (v := nI 0) dL_alike_141 (by decide) ?_
      refine zg_iload_n (x := nI X) dL_alike_142 rfl ?_
      refine zg_bipush (v := nI 40) dL_alike_143 (by decide) ?_
      refine zg_iremN dL_alike_145 (by omega) (by omega) (by omega) ?_
      refine zg_cW (As := [.inr 20, .inl (nI k), .inl (nI 0), .inl (nI (X % 40))]) (S := [.inl (eB (f_X4_isSpoilt (nI k) (nI 0) (nI (X % 40)) P))]) (k := eB (f_X4_isSpoilt (nI k) (nI 0) (nI (X % 40)) P)) (N := (dm P P)) dL_alike_146 (T1 (w_spoilt (zsh 20 q) hq (nI k) (nI 0) (nI (X % 40)) P)) lk_spoilt.1 lk_spoilt.2 zi_L_spoilt rfl ⟨by decide, by decide⟩ ⟨by omega, by omega⟩ rfl (Nat.le_of_ble_eq_true rfl) ?_
      refine zg_st (pc' := 149) (L' := [some (.inr 0), some (.inr 20), some (.inl (nI X)), some (.inl (nI 1)), some (.inl (nI k))]) (S' := [.inl (eB (f_X4_isSpoilt (nI k) (nI 0) (nI (X % 40)) P)), .inl (eB (f_X4_isSpoilt (nI k) (nI 0) (nI (X % 40)) P))]) (M' := (dm P P)) rfl rfl rfl rfl ?_
      refine zg_jf2 (tgt := 181) dL_alike_149 rfl (fun z => z rfl) ?_
      refine zg_aload_n (x := 0) dL_alike_152 rfl ?_
      refine zg_iload (x := nI k) dL_alike_153 rfl ?_
      refine zg_iconst (v := nI 1) dL_alike_155 (by decide) ?_
      refine zg_iload_n (x := nI X) dL_alike_156 rfl ?_
      refine zg_bipush (v := nI 7) dL_alike_157 (by decide) ?_
      refine zg_iremN dL_alike_159 (by omega) (by omega) (by omega) ?_
      refine zg_cW (As := [.inr 0, .inl (nI k), .inl (nI 1), .inl (nI (X % 7))]) (S := []) (k := eB (f_X4_isSpoilt (nI k) (nI 1) (nI (X % 7)) P)) (N := (dm P P)) dL_alike_160 (T0 (w_spoilt q hq (nI k) (nI 1) (nI (X % 7)) P)) lk_spoilt.1 lk_spoilt.2 zi_L_spoilt rfl ⟨by decide, by decide⟩ ⟨by omega, by omega⟩ rfl (Nat.le_of_ble_eq_true rfl) ?_
      refine zg_st (pc' := 163) (L' := [some (.inr 0), some (.inr 20), some (.inl (nI X)), some (.inl (nI 1)), some (.inl (nI k))]) (S' := [.inl (eB (f_X4_isSpoilt (nI k) (nI 1) (nI (X % 7)) P))]) (M' := (dm P P)) rfl rfl rfl rfl ?_
      refine zg_aload_n (x := 20) dL_alike_163 rfl ?_
      refine zg_iload (x := nI k) dL_alike_164 rfl ?_
      refine zg_iconst (v := nI 1) dL_alike_166 (by decide) ?_
      refine zg_iload_n (x := nI X) dL_alike_167 rfl ?_
      refine zg_bipush (v := nI 7) dL_alike_168 (by decide) ?_
      refine zg_iremN dL_alike_170 (by omega) (by omega) (by omega) ?_
      refine zg_cW (As := [.inr 20, .inl (nI k), .inl (nI 1), .inl (nI (X % 7))]) (S := [.inl (eB (f_X4_isSpoilt (nI k) (nI 1) (nI (X % 7)) P))]) (k := eB (f_X4_isSpoilt (nI k) (nI 1) (nI (X % 7)) P)) (N := (dm P P)) dL_alike_171 (T1 (w_spoilt (zsh 20 q) hq (nI k) (nI 1) (nI (X % 7)) P)) lk_spoilt.1 lk_spoilt.2 zi_L_spoilt rfl ⟨by decide, by decide⟩ ⟨by omega, by omega⟩ rfl (Nat.le_of_ble_eq_true rfl) ?_
      refine zg_st (pc' := 174) (L' := [some (.inr 0), some (.inr 20), some (.inl (nI X)), some (.inl (nI 1)), some (.inl (nI k))]) (S' := [.inl (eB (f_X4_isSpoilt (nI k) (nI 1) (nI (X % 7)) P)), .inl (eB (f_X4_isSpoilt (nI k) (nI 1) (nI (X % 7)) P))]) (M' := (dm P P)) rfl rfl rfl rfl ?_
      refine zg_jf2 (tgt := 181) dL_alike_174 rfl (fun z => z rfl) ?_
      refine zg_iconst (v := nI 1) dL_alike_177 (by decide) ?_
      refine zg_goto (tgt := 182) dL_alike_178 rfl ?_
      refine zg_istore_n dL_alike_182 (by decide) ?_
      refine zg_st (pc' := 183) (L' := [some (.inr 0), some (.inr 20), some (.inl (nI X)), some (.inl (nI 1)), some (.inl (nI k))]) (S' := []) (M' := (dm P P)) rfl rfl rfl rfl ?_
      refine zg_iincN (a := k) dL_alike_183 rfl (Nat.le_of_ble_eq_true rfl) ?_
      refine zg_st (pc' := 186) (L' := [some (.inr 0), some (.inr 20), some (.inl (nI X)), some (.inl (nI 1)), some (.inl (nI (k + 1)))]) (S' := []) (M' := (dm P P)) rfl rfl rfl rfl ?_
      refine zg_goto (tgt := 64) dL_alike_186 rfl ?_
      exact ih (k + 1) _ _ (by omega) ⟨by omega, by omega⟩
set_option maxRecDepth 100000 in
theorem k_alike (q : ZQ) (hq : q.1.stackTraces = false) (X : Nat) (hX : X < 2 ^ 31) (P : Mem) : Zc (zgT q) mL_alike 250 1500 [.inr 0, .inr 20, .inl (nI X)] (dm P P) (.inl (some 1), dm P P) := by
  refine Zc.of (by decide) zi_L_alike.1 (Nat.le_of_ble_eq_true rfl) rfl ?_
  refine zg_aload_n (x := 0) dL_alike_0 rfl ?_
  refine zg_cV1 (As := []) (S := []) (k := 0) (v := f_X4_group P) (N0 := (dm P P)) dL_alike_1 lk_group (T0c (k_X4_group q P)) rfl rfl ⟨by decide, by decide⟩ ⟨by omega, by omega⟩ rfl (Nat.le_of_ble_eq_true rfl) ?_
  refine zg_st (pc' := 4) (L' := [some (.inr 0), some (.inr 20), some (.inl (nI X)), none, none]) (S' := [.inl (f_X4_group P)]) (M' := (dm P P)) rfl rfl rfl rfl ?_
  refine zg_aload_n (x := 20) dL_alike_4 rfl ?_
  refine zg_cV1 (As := []) (S := [.inl (f_X4_group P)]) (k := 20) (v := f_X4_group P) (N0 := (dm P P)) dL_alike_5 lk_group (T1c (k_X4_group (zsh 20 q) P)) rfl rfl ⟨by decide, by decide⟩ ⟨by omega, by omega⟩ rfl (Nat.le_of_ble_eq_true rfl) ?_
  refine zg_st (pc' := 8) (L' := [some (.inr 0), some (.inr 20), some (.inl (nI X)), none, none]) (S' := [.inl (f_X4_group P), .inl (f_X4_group P)]) (M' := (dm P P)) rfl rfl rfl rfl ?_
  refine zg_jf2 (tgt := 59) dL_alike_8 rfl (fun z => z rfl) ?_
  refine zg_aload_n (x := 0) dL_alike_11 rfl ?_
  refine zg_cV1 (As := []) (S := []) (k := 0) (v := f_X4_buffered P) (N0 := (dm P P)) dL_alike_12 lk_buffered (T0c (k_X4_buffered q P)) rfl rfl ⟨by decide, by decide⟩ ⟨by omega, by omega⟩ rfl (Nat.le_of_ble_eq_true rfl) ?_
  refine zg_st (pc' := 15) (L' := [some (.inr 0), some (.inr 20), some (.inl (nI X)), none, none]) (S' := [.inl (f_X4_buffered P)]) (M' := (dm P P)) rfl rfl rfl rfl ?_
  refine zg_aload_n (x := 20) dL_alike_15 rfl ?_
  refine zg_cV1 (As := []) (S := [.inl (f_X4_buffered P)]) (k := 20) (v := f_X4_buffered P) (N0 := (dm P P)) dL_alike_16 lk_buffered (T1c (k_X4_buffered (zsh 20 q) P)) rfl rfl ⟨by decide, by decide⟩ ⟨by omega, by omega⟩ rfl (Nat.le_of_ble_eq_true rfl) ?_
  refine zg_st (pc' := 19) (L' := [some (.inr 0), some (.inr 20), some (.inl (nI X)), none, none]) (S' := [.inl (f_X4_buffered P), .inl (f_X4_buffered P)]) (M' := (dm P P)) rfl rfl rfl rfl ?_
  refine zg_jf2 (tgt := 59) dL_alike_19 rfl (fun z => z rfl) ?_
  refine zg_aload_n (x := 0) dL_alike_22 rfl ?_
  refine zg_cV1 (As := []) (S := []) (k := 0) (v := f_X4_healed P) (N0 := (dm P P)) dL_alike_23 lk_healed (T0c (k_X4_healed q P)) rfl rfl ⟨by decide, by decide⟩ ⟨by omega, by omega⟩ rfl (Nat.le_of_ble_eq_true rfl) ?_
  refine zg_st (pc' := 26) (L' := [some (.inr 0), some (.inr 20), some (.inl (nI X)), none, none]) (S' := [.inl (f_X4_healed P)]) (M' := (dm P P)) rfl rfl rfl rfl ?_
  refine zg_aload_n (x := 20) dL_alike_26 rfl ?_
  refine zg_cV1 (As := []) (S := [.inl (f_X4_healed P)]) (k := 20) (v := f_X4_healed P) (N0 := (dm P P)) dL_alike_27 lk_healed (T1c (k_X4_healed (zsh 20 q) P)) rfl rfl ⟨by decide, by decide⟩ ⟨by omega, by omega⟩ rfl (Nat.le_of_ble_eq_true rfl) ?_
  refine zg_st (pc' := 30) (L' := [some (.inr 0), some (.inr 20), some (.inl (nI X)), none, none]) (S' := [.inl (f_X4_healed P), .inl (f_X4_healed P)]) (M' := (dm P P)) rfl rfl rfl rfl ?_
  refine zg_jf2 (tgt := 59) dL_alike_30 rfl (fun z => z rfl) ?_
  refine zg_aload_n (x := 0) dL_alike_33 rfl ?_
  refine zg_cV1 (As := []) (S := []) (k := 0) (v := f_X4_lost P) (N0 := (dm P P)) dL_alike_34 lk_lost (T0c (k_X4_lost q P)) rfl rfl ⟨by decide, by decide⟩ ⟨by omega, by omega⟩ rfl (Nat.le_of_ble_eq_true rfl) ?_
  refine zg_st (pc' := 37) (L' := [some (.inr 0), some (.inr 20), some (.inl (nI X)), none, none]) (S' := [.inl (f_X4_lost P)]) (M' := (dm P P)) rfl rfl rfl rfl ?_
  refine zg_aload_n (x := 20) dL_alike_37 rfl ?_
  refine zg_cV1 (As := []) (S := [.inl (f_X4_lost P)]) (k := 20) (v := f_X4_lost P) (N0 := (dm P P)) dL_alike_38 lk_lost (T1c (k_X4_lost (zsh 20 q) P)) rfl rfl ⟨by decide, by decide⟩ ⟨by omega, by omega⟩ rfl (Nat.le_of_ble_eq_true rfl) ?_
  refine zg_st (pc' := 41) (L' := [some (.inr 0), some (.inr 20), some (.inl (nI X)), none, none]) (S' := [.inl (f_X4_lost P), .inl (f_X4_lost P)]) (M' := (dm P P)) rfl rfl rfl rfl ?_
  refine zg_jf2 (tgt := 59) dL_alike_41 rfl (fun z => z rfl) ?_
  refine zg_aload_n (x := 0) dL_alike_44 rfl ?_
  refine zg_cV1 (As := []) (S := []) (k := 0) (v := f_X4_rootChecksum P) (N0 := (dm P P)) dL_alike_45 lk_rootChecksum (T0c (k_X4_rootChecksum q P)) rfl rfl ⟨by decide, by decide⟩ ⟨by omega, by omega⟩ rfl (Nat.le_of_ble_eq_true rfl) ?_
  refine zg_st (pc' := 48) (L' := [some (.inr 0), some (.inr 20), some (.inl (nI X)), none, none]) (S' := [.inl (f_X4_rootChecksum P)]) (M' := (dm P P)) rfl rfl rfl rfl ?_
  refine zg_aload_n (x := 20) dL_alike_48 rfl ?_
  refine zg_cV1 (As := []) (S := [.inl (f_X4_rootChecksum P)]) (k := 20) (v := f_X4_rootChecksum P) (N0 := (dm P P)) dL_alike_49 lk_rootChecksum (T1c (k_X4_rootChecksum (zsh 20 q) P)) rfl rfl ⟨by decide, by decide⟩ ⟨by omega, by omega⟩ rfl (Nat.le_of_ble_eq_true rfl) ?_
  refine zg_st (pc' := 52) (L' := [some (.inr 0), some (.inr 20), some (.inl (nI X)), none, none]) (S' := [.inl (f_X4_rootChecksum P), .inl (f_X4_rootChecksum P)]) (M' := (dm P P)) rfl rfl rfl rfl ?_
  refine zg_jf2 (tgt := 59) dL_alike_52 rfl (fun z => z rfl) ?_
  refine zg_iconst (v := nI 1) dL_alike_55 (by decide) ?_
  refine zg_goto (tgt := 60) dL_alike_56 rfl ?_
  refine zg_istore_n dL_alike_60 (by decide) ?_
  refine zg_st (pc' := 61) (L' := [some (.inr 0), some (.inr 20), some (.inl (nI X)), some (.inl (nI 1)), none]) (S' := []) (M' := (dm P P)) rfl rfl rfl rfl ?_
  refine zg_iconst (v := nI 0) dL_alike_61 (by decide) ?_
  refine zg_istore dL_alike_62 (by decide) ?_
  refine zg_st (pc' := 64) (L' := [some (.inr 0), some (.inr 20), some (.inl (nI X)), some (.inl (nI 1)), some (.inl (nI 0))]) (S' := []) (M' := (dm P P)) rfl rfl rfl rfl ?_
  exact al_64 q hq X hX P 4 0 _ _ (by omega) ⟨by omega, by omega⟩
end
