/-! ===== by program (wip/p29/sides.py): sides, behind the pool's making ===== -/
section
theorem ws_w (q : ZQ) (hq : q.1.stackTraces = false) {k : Nat} (hk : k < 20) : Zd (zgX q) mL_writes hL_writes [.inr 0, .inl (nI (k % 4)), .inl (nI (k / 4)), .inl (nI (100 + k))] (wP k) 0 (wP (k + 1)) := by
  have e := w_writes q hq (nI (k % 4)) (nI (k / 4)) (nI (100 + k)) (wP k)
  rw [sd_all.2.1 k hk] at e
  exact e
theorem ws_y (q : ZQ) (hq : q.1.stackTraces = false) : Zd (zgX q) mL_syncs hL_syncs [.inr 0] (wP 20) 30 P1 := by
  have e := w_syncs q hq (wP 20)
  rw [sd_all.1] at e
  exact e
theorem ws_sp (q : ZQ) (hq : q.1.stackTraces = false) (X : Nat) {m c : Nat} (hm : m < 3) (hc : c < 40) : Zd (zgX q) mL_spoils hL_spoils [.inr 0, .inl (nI m), .inl (nI (sb X m)), .inl (nI c)] (sP X (40 * m + c)) (if usd (40 * m + c) = true then 1 else -9999003) (sP X (40 * m + c + 1)) := by
  have e := w_spoils q hq (nI ((40 * m + c) / 40)) (nI (sb X ((40 * m + c) / 40))) (nI ((40 * m + c) % 40)) (sP X (40 * m + c))
  rw [sP_a X (by omega)] at e
  rw [show (f_X4_spoil (nI ((40 * m + c) / 40)) (nI (sb X ((40 * m + c) / 40))) (nI ((40 * m + c) % 40)) (sP X (40 * m + c))).2 = sP X (40 * m + c + 1) from rfl] at e
  rw [show (40 * m + c) / 40 = m by omega, show (40 * m + c) % 40 = c by omega] at e
  exact e
theorem ws_fr (q : ZQ) (hq : q.1.stackTraces = false) (X : Nat) {m c : Nat} (hm : m < 3) (hc : c < 40) : Zd (zgX q) mL_isFree hL_isFree [.inr 0, .inl (nI m), .inl (nI c)] (sP X (40 * m + c + 1)) (if usd (40 * m + c) = true then 0 else 1) (sP X (40 * m + c + 1)) := by
  have e := ws_isFree q hq (m := m) (c := c) (P := sP X (40 * m + c + 1)) hm hc
  rw [(sP_c X (40 * m + c + 1) (by omega)).1 6 (by decide)] at e
  have h : bI (decide (P1 6 (40 * m + c) = 0)) = if usd (40 * m + c) = true then 0 else 1 := by
    unfold usd
    by_cases z : P1 6 (40 * m + c) = 0
    · simp [z, bI]
    · simp [z, bI]
  rw [h] at e
  exact e
theorem ws_r (q : ZQ) (hq : q.1.stackTraces = false) (X : Nat) {k : Nat} (hk : k < 20) : Zd (zgX q) mL_reads hL_reads [.inr 0, .inl (nI (k % 4)), .inl (nI (k / 4))] (sQ X k) (nI (100 + k)) (sQ X (k + 1)) := by
  have e := w_reads q hq (nI (k % 4)) (nI (k / 4)) (sQ X k)
  rw [sQ_a X hk] at e
  exact e
theorem sb_bit {X m : Nat} (hX : X < 2 ^ 31) (hm : m < 3) : (nI X >>> (nI m &&& 31)) &&& nI 1 = nI (sb X m) := by
  have h2 : X / 2 ^ m ≤ X := Nat.div_le_self _ _
  have e : nI X >>> (nI m &&& 31) = nI (X / 2 ^ m) := by
    refine pk_shrN hX _ m ?_
    rcases (by omega : m = 0 ∨ m = 1 ∨ m = 2) with rfl | rfl | rfl <;> decide
  rw [e, pk_andN (by omega) 1 (by decide)]
  rfl
theorem sd_105 (q : ZQ) (X : Nat) (hX : X < 2 ^ 31) {m ce sl : Nat} (hm : m < 3) {L : List (Option SV)} {S : List SV} {M : Mem} (h : Zg (zgX q) mL_sides 310 2700 ce sl (.inl (some 1), (f_X4_scrub (sQ X 20)).2) 108 L (.inl (nI (sb X m)) :: S) M) : Zg (zgX q) mL_sides 310 2700 ce sl (.inl (some 1), (f_X4_scrub (sQ X 20)).2) 105 L (.inl (nI m) :: .inl (nI X) :: S) M := by
  intro p e s mm args below meth cc H locs ls sz C hP hD hS hL
  have hh := h p e s mm args below meth cc H locs ls sz C hP hD hS hL
  refine lv_ishr C.1 C.2.1 dL_sides_105 ?_
  refine lv_iconst (v := nI 1) C.1 C.2.1 dL_sides_106 (by decide) ?_
  refine lv_iand C.1 C.2.1 dL_sides_107 ?_
  rw [sb_bit hX hm]
  exact hh
theorem sd_239 (q : ZQ) (hq : q.1.stackTraces = false) (X : Nat) (hX : X < 2 ^ 31) {ce sl : Nat} (hc : ce ≤ 310 ∧ sl ≤ 2700) : Zg (zgX q) mL_sides 310 2700 ce sl (.inl (some 1), (f_X4_scrub (sQ X 20)).2) 239 [some (.inl (nI X)), some (.inr 0), some (.inl (nI 1)), none, none, none, none] [] (sQ X 20) := by
  obtain ⟨e1, e2, e3⟩ := sQ_scrub X
  refine zg_aload_n (x := 0) dL_sides_239 rfl ?_
  refine zg_cV1 (As := []) (S := []) (k := 0) (v := f_X4_healed (sQ X 20)) (N0 := (sQ X 20)) dL_sides_240 lk_healed (k_X4_healed q (sQ X 20)) rfl rfl ⟨by decide, by decide⟩ ⟨by omega, by omega⟩ rfl (Nat.le_of_ble_eq_true rfl) ?_
  refine zg_st (pc' := 243) (L' := [some (.inl (nI X)), some (.inr 0), some (.inl (nI 1)), none, none, none, none]) (S' := [.inl (f_X4_healed (sQ X 20))]) (M' := (sQ X 20)) rfl rfl rfl rfl ?_
  refine zg_istore dL_sides_243 (by decide) ?_
  refine zg_st (pc' := 245) (L' := [some (.inl (nI X)), some (.inr 0), some (.inl (nI 1)), none, some (.inl (f_X4_healed (sQ X 20))), none, none]) (S' := []) (M' := (sQ X 20)) rfl rfl rfl rfl ?_
  refine zg_iload_n (x := nI 1) dL_sides_245 rfl ?_
  refine zg_jf (tgt := 281) dL_sides_246 rfl (show ¬ (nI 1 = 0) by decide) ?_
  refine zg_aload_n (x := 0) dL_sides_249 rfl ?_
  refine zg_cV1 (As := []) (S := []) (k := 0) (v := (f_X4_scrub (sQ X 20)).1) (N0 := (f_X4_scrub (sQ X 20)).2) dL_sides_250 lk_scrub (k_X4_scrub q (sQ X 20)) rfl rfl ⟨by decide, by decide⟩ ⟨by omega, by omega⟩ rfl (Nat.le_of_ble_eq_true rfl) ?_
  refine zg_st (pc' := 253) (L' := [some (.inl (nI X)), some (.inr 0), some (.inl (nI 1)), none, some (.inl (f_X4_healed (sQ X 20))), none, none]) (S' := [.inl ((f_X4_scrub (sQ X 20)).1)]) (M' := (f_X4_scrub (sQ X 20)).2) rfl rfl rfl rfl ?_
  refine zg_bipush (v := nI 30) dL_sides_253 (by decide) ?_
  refine zg_iload (x := f_X4_healed (sQ X 20)) dL_sides_255 rfl ?_
  refine zg_isub dL_sides_257 ?_
  refine zg_jf2 (tgt := 281) dL_sides_258 rfl (fun z => z e1) ?_
  refine zg_aload_n (x := 0) dL_sides_261 rfl ?_
  refine zg_cV1 (As := []) (S := []) (k := 0) (v := f_X4_healed (f_X4_scrub (sQ X 20)).2) (N0 := (f_X4_scrub (sQ X 20)).2) dL_sides_262 lk_healed (k_X4_healed q (f_X4_scrub (sQ X 20)).2) rfl rfl ⟨by decide, by decide⟩ ⟨by omega, by omega⟩ rfl (Nat.le_of_ble_eq_true rfl) ?_
  refine zg_st (pc' := 265) (L' := [some (.inl (nI X)), some (.inr 0), some (.inl (nI 1)), none, some (.inl (f_X4_healed (sQ X 20))), none, none]) (S' := [.inl (f_X4_healed (f_X4_scrub (sQ X 20)).2)]) (M' := (f_X4_scrub (sQ X 20)).2) rfl rfl rfl rfl ?_
  refine zg_bipush (v := nI 30) dL_sides_265 (by decide) ?_
  refine zg_jf2 (tgt := 281) dL_sides_267 rfl (fun z => z e2) ?_
  refine zg_aload_n (x := 0) dL_sides_270 rfl ?_
  refine zg_cV1 (As := []) (S := []) (k := 0) (v := f_X4_lost (f_X4_scrub (sQ X 20)).2) (N0 := (f_X4_scrub (sQ X 20)).2) dL_sides_271 lk_lost (k_X4_lost q (f_X4_scrub (sQ X 20)).2) rfl rfl ⟨by decide, by decide⟩ ⟨by omega, by omega⟩ rfl (Nat.le_of_ble_eq_true rfl) ?_
  refine zg_st (pc' := 274) (L' := [some (.inl (nI X)), some (.inr 0), some (.inl (nI 1)), none, some (.inl (f_X4_healed (sQ X 20))), none, none]) (S' := [.inl (f_X4_lost (f_X4_scrub (sQ X 20)).2)]) (M' := (f_X4_scrub (sQ X 20)).2) rfl rfl rfl rfl ?_
  refine zg_jf (tgt := 281) dL_sides_274 rfl (fun z => z e3) ?_
  refine zg_iconst (v := nI 1) dL_sides_277 (by decide) ?_
  refine zg_goto (tgt := 282) dL_sides_278 rfl ?_
  exact zg_iret dL_sides_282 rfl rfl ⟨by omega, by omega⟩ rfl
theorem sd_196 (q : ZQ) (hq : q.1.stackTraces = false) (X : Nat) (hX : X < 2 ^ 31) : ∀ (n k ce sl : Nat), k + n = 20 → ce + n ≤ 310 ∧ sl + 6 * n ≤ 2700 → Zg (zgX q) mL_sides 310 2700 ce sl (.inl (some 1), (f_X4_scrub (sQ X 20)).2) 196 [some (.inl (nI X)), some (.inr 0), some (.inl (nI 1)), none, some (.inl (nI k)), none, none] [] (sQ X k) := by
  intro n
  induction n with
  | zero =>
    intro k ce sl hk hc
    have e : k = 20 := by omega
    subst e
    refine zg_iload (x := nI 20) dL_sides_196 rfl ?_
    refine zg_bipush (v := nI 20) dL_sides_198 (by decide) ?_
    refine zg_jt2 (tgt := 239) dL_sides_200 rfl (nI_le (Nat.le_refl _) (by decide)) ?_
    refine zg_drop (L' := [some (.inl (nI X)), some (.inr 0), some (.inl (nI 1)), none, none, none, none]) ⟨rfl, ⟨rfl, ⟨rfl, trivial⟩⟩⟩ ?_
    exact sd_239 q hq X hX ⟨by omega, by omega⟩
  | succ n ih =>
    intro k ce sl hk hc
    refine zg_iload (x := nI k) dL_sides_196 rfl ?_
    refine zg_bipush (v := nI 20) dL_sides_198 (by decide) ?_
    refine zg_jf2 (tgt := 239) dL_sides_200 rfl (nI_ge (by omega) (by decide)) ?_
    refine zg_iload_n (x := nI 1) dL_sides_203 rfl ?_
    refine zg_jf (tgt := 239) dL_sides_204 rfl (show ¬ (nI 1 = 0) by decide) ?_
    refine zg_aload_n (x := 0) dL_sides_207 rfl ?_
    refine zg_iload (x := nI k) dL_sides_208 rfl ?_
    refine zg_iconst (v := nI 4) dL_sides_210 (by decide) ?_
    refine zg_iremN dL_sides_211 (by omega) (by omega) (by omega) ?_
    refine zg_iload (x := nI k) dL_sides_212 rfl ?_
    refine zg_iconst (v := nI 4) dL_sides_214 (by decide) ?_
    refine zg_idivN dL_sides_215 (by omega) (by omega) (by omega) ?_
    refine zg_cW (As := [.inr 0, .inl (nI (k % 4)), .inl (nI (k / 4))]) (S := []) (k := nI (100 + k)) (N := (sQ X (k + 1))) dL_sides_216 (ws_r q hq X (by omega)) lk_reads.1 lk_reads.2 zi_L_reads rfl ⟨by decide, by decide⟩ ⟨by omega, by omega⟩ rfl (Nat.le_of_ble_eq_true rfl) ?_
    refine zg_st (pc' := 219) (L' := [some (.inl (nI X)), some (.inr 0), some (.inl (nI 1)), none, some (.inl (nI k)), none, none]) (S' := [.inl (nI (100 + k))]) (M' := (sQ X (k + 1))) rfl rfl rfl rfl ?_
    refine zg_bipush (v := nI 100) dL_sides_219 (by decide) ?_
    refine zg_iload (x := nI k) dL_sides_221 rfl ?_
    refine zg_iaddN dL_sides_223 ?_
    refine zg_jf2 (tgt := 231) dL_sides_224 rfl (fun z => z rfl) ?_
    refine zg_iconst (v := nI 1) dL_sides_227 (by decide) ?_
    refine zg_goto (tgt := 232) dL_sides_228 rfl ?_
    refine zg_istore_n dL_sides_232 (by decide) ?_
    refine zg_st (pc' := 233) (L' := [some (.inl (nI X)), some (.inr 0), some (.inl (nI 1)), none, some (.inl (nI k)), none, none]) (S' := []) (M' := (sQ X (k + 1))) rfl rfl rfl rfl ?_
    refine zg_iincN (a := k) dL_sides_233 rfl (Nat.le_of_ble_eq_true rfl) ?_
    refine zg_st (pc' := 236) (L' := [some (.inl (nI X)), some (.inr 0), some (.inl (nI 1)), none, some (.inl (nI (k + 1))), none, none]) (S' := []) (M' := (sQ X (k + 1))) rfl rfl rfl rfl ?_
    refine zg_goto (tgt := 196) dL_sides_236 rfl ?_
    exact ih (k + 1) _ _ (by omega) ⟨by omega, by omega⟩
theorem sd_170 (q : ZQ) (hq : q.1.stackTraces = false) (X : Nat) (hX : X < 2 ^ 31) {ce sl : Nat} (hc : ce + 20 ≤ 310 ∧ sl + 120 ≤ 2700) : Zg (zgX q) mL_sides 310 2700 ce sl (.inl (some 1), (f_X4_scrub (sQ X 20)).2) 170 [some (.inl (nI X)), some (.inr 0), some (.inl (nI 1)), some (.inl (nI (ctb usd 120))), none, none, none] [] (sP X 120) := by
  refine zg_iload_n (x := nI 1) dL_sides_170 rfl ?_
  refine zg_jf (tgt := 191) dL_sides_171 rfl (show ¬ (nI 1 = 0) by decide) ?_
  refine zg_iload_n (x := nI (ctb usd 120)) dL_sides_174 rfl ?_
  refine zg_bipush (v := nI 30) dL_sides_175 (by decide) ?_
  refine zg_jf2 (tgt := 191) dL_sides_177 rfl (fun z => z (congrArg nI sd_all.2.2.2.2.1)) ?_
  refine zg_aload_n (x := 0) dL_sides_180 rfl ?_
  refine zg_cV1 (As := []) (S := []) (k := 0) (v := f_X4_lost (sP X 120)) (N0 := (sP X 120)) dL_sides_181 lk_lost (k_X4_lost q (sP X 120)) rfl rfl ⟨by decide, by decide⟩ ⟨by omega, by omega⟩ rfl (Nat.le_of_ble_eq_true rfl) ?_
  refine zg_st (pc' := 184) (L' := [some (.inl (nI X)), some (.inr 0), some (.inl (nI 1)), some (.inl (nI (ctb usd 120))), none, none, none]) (S' := [.inl (f_X4_lost (sP X 120))]) (M' := (sP X 120)) rfl rfl rfl rfl ?_
  refine zg_jf (tgt := 191) dL_sides_184 rfl (fun z => z (sP_lost X)) ?_
  refine zg_iconst (v := nI 1) dL_sides_187 (by decide) ?_
  refine zg_goto (tgt := 192) dL_sides_188 rfl ?_
  refine zg_istore_n dL_sides_192 (by decide) ?_
  refine zg_st (pc' := 193) (L' := [some (.inl (nI X)), some (.inr 0), some (.inl (nI 1)), some (.inl (nI (ctb usd 120))), none, none, none]) (S' := []) (M' := (sP X 120)) rfl rfl rfl rfl ?_
  refine zg_drop (L' := [some (.inl (nI X)), some (.inr 0), some (.inl (nI 1)), none, none, none, none]) ⟨rfl, ⟨rfl, ⟨rfl, trivial⟩⟩⟩ ?_
  refine zg_iconst (v := nI 0) dL_sides_193 (by decide) ?_
  refine zg_istore dL_sides_194 (by decide) ?_
  refine zg_st (pc' := 196) (L' := [some (.inl (nI X)), some (.inr 0), some (.inl (nI 1)), none, some (.inl (nI 0)), none, none]) (S' := []) (M' := (sP X 120)) rfl rfl rfl rfl ?_
  exact sd_196 q hq X hX 20 0 _ _ (by omega) ⟨by omega, by omega⟩
theorem sd_88 (q : ZQ) (hq : q.1.stackTraces = false) (X : Nat) (hX : X < 2 ^ 31) {m : Nat} (hm : m < 3) {ce1 sl1 : Nat} (hc1 : ce1 ≤ 310 ∧ sl1 ≤ 2700) (hh : Zg (zgX q) mL_sides 310 2700 ce1 sl1 (.inl (some 1), (f_X4_scrub (sQ X 20)).2) 164 [some (.inl (nI X)), some (.inr 0), some (.inl (nI 1)), some (.inl (nI (ctb usd (40 * m + 40)))), some (.inl (nI m)), none, none] [] (sP X (40 * m + 40))) : ∀ (n c ce sl : Nat), c + n = 40 → ce + 2 * n ≤ ce1 ∧ sl + 12 * n ≤ sl1 → Zg (zgX q) mL_sides 310 2700 ce sl (.inl (some 1), (f_X4_scrub (sQ X 20)).2) 88 [some (.inl (nI X)), some (.inr 0), some (.inl (nI 1)), some (.inl (nI (ctb usd (40 * m + c)))), some (.inl (nI m)), some (.inl (nI c)), none] [] (sP X (40 * m + c)) := by
  intro n
  induction n with
  | zero =>
    intro c ce sl hk hc
    have e : c = 40 := by omega
    subst e
    refine zg_iload (x := nI 40) dL_sides_88 rfl ?_
    refine zg_bipush (v := nI 40) dL_sides_90 (by decide) ?_
    refine zg_jt2 (tgt := 164) dL_sides_92 rfl (nI_le (Nat.le_refl _) (by decide)) ?_
    refine zg_drop (L' := [some (.inl (nI X)), some (.inr 0), some (.inl (nI 1)), some (.inl (nI (ctb usd (40 * m + 40)))), some (.inl (nI m)), none, none]) ⟨rfl, ⟨rfl, ⟨rfl, ⟨rfl, ⟨rfl, trivial⟩⟩⟩⟩⟩ ?_
    exact zg_more (by omega) (by omega) hh
  | succ n ih =>
    intro c ce sl hk hc
    have ec : ctb usd (40 * m + (c + 1)) = ctb usd (40 * m + c) + (if usd (40 * m + c) = true then 1 else 0) := rfl
    have nx := ih (c + 1) (ce + 2) (sl + 12) (by omega) ⟨by omega, by omega⟩
    by_cases hu : usd (40 * m + c) = true
    · refine zg_iload (x := nI c) dL_sides_88 rfl ?_
      refine zg_bipush (v := nI 40) dL_sides_90 (by decide) ?_
      refine zg_jf2 (tgt := 164) dL_sides_92 rfl (nI_ge (by omega) (by decide)) ?_
      refine zg_iload_n (x := nI 1) dL_sides_95 rfl ?_
      refine zg_jf (tgt := 164) dL_sides_96 rfl (show ¬ (nI 1 = 0) by decide) ?_
      refine zg_aload_n (x := 0) dL_sides_99 rfl ?_
      refine zg_iload (x := nI m) dL_sides_100 rfl ?_
      refine zg_iload_n (x := nI X) dL_sides_102 rfl ?_
      refine zg_iload (x := nI m) dL_sides_103 rfl ?_
      refine sd_105 q X hX hm ?_
      refine zg_iload (x := nI c) dL_sides_108 rfl ?_
      refine zg_cW (As := [.inr 0, .inl (nI m), .inl (nI (sb X m)), .inl (nI c)]) (S := []) (k := (if usd (40 * m + c) = true then 1 else -9999003)) (N := (sP X (40 * m + c + 1))) dL_sides_110 (ws_sp q hq X hm (by omega)) lk_spoils.1 lk_spoils.2 zi_L_spoils rfl ⟨by decide, by decide⟩ ⟨by omega, by omega⟩ rfl (Nat.le_of_ble_eq_true rfl) ?_
      refine zg_st (pc' := 113) (L' := [some (.inl (nI X)), some (.inr 0), some (.inl (nI 1)), some (.inl (nI (ctb usd (40 * m + c)))), some (.inl (nI m)), some (.inl (nI c)), none]) (S' := [.inl (if usd (40 * m + c) = true then 1 else -9999003)]) (M' := (sP X (40 * m + c + 1))) rfl rfl rfl rfl ?_
      refine zg_istore dL_sides_113 (by decide) ?_
      refine zg_st (pc' := 115) (L' := [some (.inl (nI X)), some (.inr 0), some (.inl (nI 1)), some (.inl (nI (ctb usd (40 * m + c)))), some (.inl (nI m)), some (.inl (nI c)), some (.inl (if usd (40 * m + c) = true then 1 else -9999003))]) (S' := []) (M' := (sP X (40 * m + c + 1))) rfl rfl rfl rfl ?_
      refine zg_iload_n (x := nI (ctb usd (40 * m + c))) dL_sides_115 rfl ?_
      refine zg_iload (x := (if usd (40 * m + c) = true then 1 else -9999003)) dL_sides_116 rfl ?_
      refine zg_iconst (v := nI 1) dL_sides_118 (by decide) ?_
      refine zg_jf2 (tgt := 126) dL_sides_119 rfl (show ¬ ¬ ((if usd (40 * m + c) = true then 1 else -9999003) = nI 1) by rw [if_pos hu]; exact fun z => z rfl) ?_
      refine zg_iconst (v := nI 1) dL_sides_122 (by decide) ?_
      refine zg_goto (tgt := 127) dL_sides_123 rfl ?_
      refine zg_iaddN dL_sides_127 ?_
      refine zg_istore_n dL_sides_128 (by decide) ?_
      refine zg_st (pc' := 129) (L' := [some (.inl (nI X)), some (.inr 0), some (.inl (nI 1)), some (.inl (nI ((ctb usd (40 * m + c)) + 1))), some (.inl (nI m)), some (.inl (nI c)), some (.inl (if usd (40 * m + c) = true then 1 else -9999003))]) (S' := []) (M' := (sP X (40 * m + c + 1))) rfl rfl rfl rfl ?_
      refine zg_iload (x := (if usd (40 * m + c) = true then 1 else -9999003)) dL_sides_129 rfl ?_
      refine zg_aload_n (x := 0) dL_sides_131 rfl ?_
      refine zg_iload (x := nI m) dL_sides_132 rfl ?_
      refine zg_iload (x := nI c) dL_sides_134 rfl ?_
      refine zg_cW (As := [.inr 0, .inl (nI m), .inl (nI c)]) (S := [.inl (if usd (40 * m + c) = true then 1 else -9999003)]) (k := (if usd (40 * m + c) = true then 0 else 1)) (N := (sP X (40 * m + c + 1))) dL_sides_136 (ws_fr q hq X hm (by omega)) lk_isFree.1 lk_isFree.2 zi_L_isFree rfl ⟨by decide, by decide⟩ ⟨by omega, by omega⟩ rfl (Nat.le_of_ble_eq_true rfl) ?_
      refine zg_st (pc' := 139) (L' := [some (.inl (nI X)), some (.inr 0), some (.inl (nI 1)), some (.inl (nI ((ctb usd (40 * m + c)) + 1))), some (.inl (nI m)), some (.inl (nI c)), some (.inl (if usd (40 * m + c) = true then 1 else -9999003))]) (S' := [.inl (if usd (40 * m + c) = true then 0 else 1), .inl (if usd (40 * m + c) = true then 1 else -9999003)]) (M' := (sP X (40 * m + c + 1))) rfl rfl rfl rfl ?_
      refine zg_iconst (v := nI 1) dL_sides_139 (by decide) ?_
      refine zg_jt2 (tgt := 148) dL_sides_140 rfl (show ¬ ((if usd (40 * m + c) = true then 0 else 1) = nI 1) by rw [if_pos hu]; decide) ?_
      refine zg_iconst (v := nI 1) dL_sides_148 (by decide) ?_
      refine zg_jf2 (tgt := 156) dL_sides_149 rfl (show ¬ ¬ ((if usd (40 * m + c) = true then 1 else -9999003) = nI 1) by rw [if_pos hu]; exact fun z => z rfl) ?_
      refine zg_iconst (v := nI 1) dL_sides_152 (by decide) ?_
      refine zg_goto (tgt := 157) dL_sides_153 rfl ?_
      refine zg_istore_n dL_sides_157 (by decide) ?_
      refine zg_st (pc' := 158) (L' := [some (.inl (nI X)), some (.inr 0), some (.inl (nI 1)), some (.inl (nI ((ctb usd (40 * m + c)) + 1))), some (.inl (nI m)), some (.inl (nI c)), some (.inl (if usd (40 * m + c) = true then 1 else -9999003))]) (S' := []) (M' := (sP X (40 * m + c + 1))) rfl rfl rfl rfl ?_
      refine zg_iincN (a := c) dL_sides_158 rfl (Nat.le_of_ble_eq_true rfl) ?_
      refine zg_st (pc' := 161) (L' := [some (.inl (nI X)), some (.inr 0), some (.inl (nI 1)), some (.inl (nI ((ctb usd (40 * m + c)) + 1))), some (.inl (nI m)), some (.inl (nI (c + 1))), some (.inl (if usd (40 * m + c) = true then 1 else -9999003))]) (S' := []) (M' := (sP X (40 * m + c + 1))) rfl rfl rfl rfl ?_
      refine zg_drop (L' := [some (.inl (nI X)), some (.inr 0), some (.inl (nI 1)), some (.inl (nI ((ctb usd (40 * m + c)) + 1))), some (.inl (nI m)), some (.inl (nI (c + 1))), none]) ⟨rfl, ⟨rfl, ⟨rfl, ⟨rfl, ⟨rfl, ⟨rfl, trivial⟩⟩⟩⟩⟩⟩ ?_
      refine zg_goto (tgt := 88) dL_sides_161 rfl ?_
      rw [if_pos hu] at ec
      rw [ec] at nx
      exact nx
    · refine zg_iload (x := nI c) dL_sides_88 rfl ?_
      refine zg_bipush (v := nI 40) dL_sides_90 (by decide) ?_
      refine zg_jf2 (tgt := 164) dL_sides_92 rfl (nI_ge (by omega) (by decide)) ?_
      refine zg_iload_n (x := nI 1) dL_sides_95 rfl ?_
      refine zg_jf (tgt := 164) dL_sides_96 rfl (show ¬ (nI 1 = 0) by decide) ?_
      refine zg_aload_n (x := 0) dL_sides_99 rfl ?_
      refine zg_iload (x := nI m) dL_sides_100 rfl ?_
      refine zg_iload_n (x := nI X) dL_sides_102 rfl ?_
      refine zg_iload (x := nI m) dL_sides_103 rfl ?_
      refine sd_105 q X hX hm ?_
      refine zg_iload (x := nI c) dL_sides_108 rfl ?_
      refine zg_cW (As := [.inr 0, .inl (nI m), .inl (nI (sb X m)), .inl (nI c)]) (S := []) (k := (if usd (40 * m + c) = true then 1 else -9999003)) (N := (sP X (40 * m + c + 1))) dL_sides_110 (ws_sp q hq X hm (by omega)) lk_spoils.1 lk_spoils.2 zi_L_spoils rfl ⟨by decide, by decide⟩ ⟨by omega, by omega⟩ rfl (Nat.le_of_ble_eq_true rfl) ?_
      refine zg_st (pc' := 113) (L' := [some (.inl (nI X)), some (.inr 0), some (.inl (nI 1)), some (.inl (nI (ctb usd (40 * m + c)))), some (.inl (nI m)), some (.inl (nI c)), none]) (S' := [.inl (if usd (40 * m + c) = true then 1 else -9999003)]) (M' := (sP X (40 * m + c + 1))) rfl rfl rfl rfl ?_
      refine zg_istore dL_sides_113 (by decide) ?_
      refine zg_st (pc' := 115) (L' := [some (.inl (nI X)), some (.inr 0), some (.inl (nI 1)), some (.inl (nI (ctb usd (40 * m + c)))), some (.inl (nI m)), some (.inl (nI c)), some (.inl (if usd (40 * m + c) = true then 1 else -9999003))]) (S' := []) (M' := (sP X (40 * m + c + 1))) rfl rfl rfl rfl ?_
      refine zg_iload_n (x := nI (ctb usd (40 * m + c))) dL_sides_115 rfl ?_
      refine zg_iload (x := (if usd (40 * m + c) = true then 1 else -9999003)) dL_sides_116 rfl ?_
      refine zg_iconst (v := nI 1) dL_sides_118 (by decide) ?_
      refine zg_jt2 (tgt := 126) dL_sides_119 rfl (show ¬ ((if usd (40 * m + c) = true then 1 else -9999003) = nI 1) by rw [if_neg hu]; decide) ?_
      refine zg_iconst (v := nI 0) dL_sides_126 (by decide) ?_
      refine zg_iaddN dL_sides_127 ?_
      refine zg_istore_n dL_sides_128 (by decide) ?_
      refine zg_st (pc' := 129) (L' := [some (.inl (nI X)), some (.inr 0), some (.inl (nI 1)), some (.inl (nI ((ctb usd (40 * m + c)) + 0))), some (.inl (nI m)), some (.inl (nI c)), some (.inl (if usd (40 * m + c) = true then 1 else -9999003))]) (S' := []) (M' := (sP X (40 * m + c + 1))) rfl rfl rfl rfl ?_
      refine zg_iload (x := (if usd (40 * m + c) = true then 1 else -9999003)) dL_sides_129 rfl ?_
      refine zg_aload_n (x := 0) dL_sides_131 rfl ?_
      refine zg_iload (x := nI m) dL_sides_132 rfl ?_
      refine zg_iload (x := nI c) dL_sides_134 rfl ?_
      refine zg_cW (As := [.inr 0, .inl (nI m), .inl (nI c)]) (S := [.inl (if usd (40 * m + c) = true then 1 else -9999003)]) (k := (if usd (40 * m + c) = true then 0 else 1)) (N := (sP X (40 * m + c + 1))) dL_sides_136 (ws_fr q hq X hm (by omega)) lk_isFree.1 lk_isFree.2 zi_L_isFree rfl ⟨by decide, by decide⟩ ⟨by omega, by omega⟩ rfl (Nat.le_of_ble_eq_true rfl) ?_
      refine zg_st (pc' := 139) (L' := [some (.inl (nI X)), some (.inr 0), some (.inl (nI 1)), some (.inl (nI ((ctb usd (40 * m + c)) + 0))), some (.inl (nI m)), some (.inl (nI c)), some (.inl (if usd (40 * m + c) = true then 1 else -9999003))]) (S' := [.inl (if usd (40 * m + c) = true then 0 else 1), .inl (if usd (40 * m + c) = true then 1 else -9999003)]) (M' := (sP X (40 * m + c + 1))) rfl rfl rfl rfl ?_
      refine zg_iconst (v := nI 1) dL_sides_139 (by decide) ?_
      refine zg_jf2 (tgt := 148) dL_sides_140 rfl (show ¬ ¬ ((if usd (40 * m + c) = true then 0 else 1) = nI 1) by rw [if_neg hu]; exact fun z => z rfl) ?_
      refine zg_ldc (v := (-9999003)) dL_sides_143 (zm2 115 (by decide +kernel) rfl) ?_
      refine zg_goto (tgt := 149) dL_sides_145 rfl ?_
      refine zg_jf2 (tgt := 156) dL_sides_149 rfl (show ¬ ¬ ((if usd (40 * m + c) = true then 1 else -9999003) = -9999003) by rw [if_neg hu]; exact fun z => z rfl) ?_
      refine zg_iconst (v := nI 1) dL_sides_152 (by decide) ?_
      refine zg_goto (tgt := 157) dL_sides_153 rfl ?_
      refine zg_istore_n dL_sides_157 (by decide) ?_
      refine zg_st (pc' := 158) (L' := [some (.inl (nI X)), some (.inr 0), some (.inl (nI 1)), some (.inl (nI ((ctb usd (40 * m + c)) + 0))), some (.inl (nI m)), some (.inl (nI c)), some (.inl (if usd (40 * m + c) = true then 1 else -9999003))]) (S' := []) (M' := (sP X (40 * m + c + 1))) rfl rfl rfl rfl ?_
      refine zg_iincN (a := c) dL_sides_158 rfl (Nat.le_of_ble_eq_true rfl) ?_
      refine zg_st (pc' := 161) (L' := [some (.inl (nI X)), some (.inr 0), some (.inl (nI 1)), some (.inl (nI ((ctb usd (40 * m + c)) + 0))), some (.inl (nI m)), some (.inl (nI (c + 1))), some (.inl (if usd (40 * m + c) = true then 1 else -9999003))]) (S' := []) (M' := (sP X (40 * m + c + 1))) rfl rfl rfl rfl ?_
      refine zg_drop (L' := [some (.inl (nI X)), some (.inr 0), some (.inl (nI 1)), some (.inl (nI ((ctb usd (40 * m + c)) + 0))), some (.inl (nI m)), some (.inl (nI (c + 1))), none]) ⟨rfl, ⟨rfl, ⟨rfl, ⟨rfl, ⟨rfl, ⟨rfl, trivial⟩⟩⟩⟩⟩⟩ ?_
      refine zg_goto (tgt := 88) dL_sides_161 rfl ?_
      rw [if_neg hu] at ec
      rw [ec] at nx
      exact nx
theorem sd_75 (q : ZQ) (hq : q.1.stackTraces = false) (X : Nat) (hX : X < 2 ^ 31) : ∀ (n m ce sl : Nat), m + n = 3 → ce + (80 * n + 20) ≤ 310 ∧ sl + (480 * n + 120) ≤ 2700 → Zg (zgX q) mL_sides 310 2700 ce sl (.inl (some 1), (f_X4_scrub (sQ X 20)).2) 75 [some (.inl (nI X)), some (.inr 0), some (.inl (nI 1)), some (.inl (nI (ctb usd (40 * m)))), some (.inl (nI m)), none, none] [] (sP X (40 * m)) := by
  intro n
  induction n with
  | zero =>
    intro m ce sl hk hc
    have e : m = 3 := by omega
    subst e
    refine zg_iload (x := nI 3) dL_sides_75 rfl ?_
    refine zg_iconst (v := nI 3) dL_sides_77 (by decide) ?_
    refine zg_jt2 (tgt := 170) dL_sides_78 rfl (nI_le (Nat.le_refl _) (by decide)) ?_
    refine zg_drop (L' := [some (.inl (nI X)), some (.inr 0), some (.inl (nI 1)), some (.inl (nI (ctb usd (40 * 3)))), none, none, none]) ⟨rfl, ⟨rfl, ⟨rfl, ⟨rfl, trivial⟩⟩⟩⟩ ?_
    exact sd_170 q hq X hX ⟨by omega, by omega⟩
  | succ n ih =>
    intro m ce sl hk hc
    have nx := ih (m + 1) (ce + 80) (sl + 480) (by omega) ⟨by omega, by omega⟩
    rw [show 40 * (m + 1) = 40 * m + 40 by omega] at nx
    have n2 : Zg (zgX q) mL_sides 310 2700 (ce + 80) (sl + 480) (.inl (some 1), (f_X4_scrub (sQ X 20)).2) 164 [some (.inl (nI X)), some (.inr 0), some (.inl (nI 1)), some (.inl (nI (ctb usd (40 * m + 40)))), some (.inl (nI m)), none, none] [] (sP X (40 * m + 40)) := by
      refine zg_iincN (a := m) dL_sides_164 rfl (Nat.le_of_ble_eq_true rfl) ?_
      refine zg_st (pc' := 167) (L' := [some (.inl (nI X)), some (.inr 0), some (.inl (nI 1)), some (.inl (nI (ctb usd (40 * m + 40)))), some (.inl (nI (m + 1))), none, none]) (S' := []) (M' := (sP X (40 * m + 40))) rfl rfl rfl rfl ?_
      refine zg_goto (tgt := 75) dL_sides_167 rfl ?_
      exact nx
    refine zg_iload (x := nI m) dL_sides_75 rfl ?_
    refine zg_iconst (v := nI 3) dL_sides_77 (by decide) ?_
    refine zg_jf2 (tgt := 170) dL_sides_78 rfl (nI_ge (by omega) (by decide)) ?_
    refine zg_iload_n (x := nI 1) dL_sides_81 rfl ?_
    refine zg_jf (tgt := 170) dL_sides_82 rfl (show ¬ (nI 1 = 0) by decide) ?_
    refine zg_iconst (v := nI 0) dL_sides_85 (by decide) ?_
    refine zg_istore dL_sides_86 (by decide) ?_
    refine zg_st (pc' := 88) (L' := [some (.inl (nI X)), some (.inr 0), some (.inl (nI 1)), some (.inl (nI (ctb usd (40 * m)))), some (.inl (nI m)), some (.inl (nI 0)), none]) (S' := []) (M' := (sP X (40 * m))) rfl rfl rfl rfl ?_
    exact sd_88 q hq X hX (by omega) (ce1 := ce + 80) (sl1 := sl + 480) ⟨by omega, by omega⟩ n2 40 0 ce sl (by omega) ⟨by omega, by omega⟩
theorem sd_12 (q : ZQ) (hq : q.1.stackTraces = false) (X : Nat) (hX : X < 2 ^ 31) : ∀ (n k ce sl : Nat), k + n = 20 → ce + (n + 261) ≤ 310 ∧ sl + (6 * n + 1566) ≤ 2700 → Zg (zgX q) mL_sides 310 2700 ce sl (.inl (some 1), (f_X4_scrub (sQ X 20)).2) 12 [some (.inl (nI X)), some (.inr 0), some (.inl (nI 1)), some (.inl (nI k)), none, none, none] [] (wP k) := by
  intro n
  induction n with
  | zero =>
    intro k ce sl hk hc
    have e : k = 20 := by omega
    subst e
    refine zg_iload_n (x := nI 20) dL_sides_12 rfl ?_
    refine zg_bipush (v := nI 20) dL_sides_13 (by decide) ?_
    refine zg_jt2 (tgt := 51) dL_sides_15 rfl (nI_le (Nat.le_refl _) (by decide)) ?_
    refine zg_iload_n (x := nI 1) dL_sides_51 rfl ?_
    refine zg_jf (tgt := 68) dL_sides_52 rfl (show ¬ (nI 1 = 0) by decide) ?_
    refine zg_aload_n (x := 0) dL_sides_55 rfl ?_
    refine zg_cW (As := [.inr 0]) (S := []) (k := 30) (N := P1) dL_sides_56 (ws_y q hq) lk_syncs.1 lk_syncs.2 zi_L_syncs rfl ⟨by decide, by decide⟩ ⟨by omega, by omega⟩ rfl (Nat.le_of_ble_eq_true rfl) ?_
    refine zg_st (pc' := 59) (L' := [some (.inl (nI X)), some (.inr 0), some (.inl (nI 1)), some (.inl (nI 20)), none, none, none]) (S' := [.inl 30]) (M' := P1) rfl rfl rfl rfl ?_
    refine zg_bipush (v := nI 30) dL_sides_59 (by decide) ?_
    refine zg_jf2 (tgt := 68) dL_sides_61 rfl (fun z => z rfl) ?_
    refine zg_iconst (v := nI 1) dL_sides_64 (by decide) ?_
    refine zg_goto (tgt := 69) dL_sides_65 rfl ?_
    refine zg_istore_n dL_sides_69 (by decide) ?_
    refine zg_st (pc' := 70) (L' := [some (.inl (nI X)), some (.inr 0), some (.inl (nI 1)), some (.inl (nI 20)), none, none, none]) (S' := []) (M' := P1) rfl rfl rfl rfl ?_
    refine zg_iconst (v := nI 0) dL_sides_70 (by decide) ?_
    refine zg_istore_n dL_sides_71 (by decide) ?_
    refine zg_st (pc' := 72) (L' := [some (.inl (nI X)), some (.inr 0), some (.inl (nI 1)), some (.inl (nI 0)), none, none, none]) (S' := []) (M' := P1) rfl rfl rfl rfl ?_
    refine zg_iconst (v := nI 0) dL_sides_72 (by decide) ?_
    refine zg_istore dL_sides_73 (by decide) ?_
    refine zg_st (pc' := 75) (L' := [some (.inl (nI X)), some (.inr 0), some (.inl (nI 1)), some (.inl (nI 0)), some (.inl (nI 0)), none, none]) (S' := []) (M' := P1) rfl rfl rfl rfl ?_
    exact sd_75 q hq X hX 3 0 _ _ (by omega) ⟨by omega, by omega⟩
  | succ n ih =>
    intro k ce sl hk hc
    refine zg_iload_n (x := nI k) dL_sides_12 rfl ?_
    refine zg_bipush (v := nI 20) dL_sides_13 (by decide) ?_
    refine zg_jf2 (tgt := 51) dL_sides_15 rfl (nI_ge (by omega) (by decide)) ?_
    refine zg_iload_n (x := nI 1) dL_sides_18 rfl ?_
    refine zg_jf (tgt := 51) dL_sides_19 rfl (show ¬ (nI 1 = 0) by decide) ?_
    refine zg_aload_n (x := 0) dL_sides_22 rfl ?_
    refine zg_iload_n (x := nI k) dL_sides_23 rfl ?_
    refine zg_iconst (v := nI 4) dL_sides_24 (by decide) ?_
    refine zg_iremN dL_sides_25 (by omega) (by omega) (by omega) ?_
    refine zg_iload_n (x := nI k) dL_sides_26 rfl ?_
    refine zg_iconst (v := nI 4) dL_sides_27 (by decide) ?_
    refine zg_idivN dL_sides_28 (by omega) (by omega) (by omega) ?_
    refine zg_bipush (v := nI 100) dL_sides_29 (by decide) ?_
    refine zg_iload_n (x := nI k) dL_sides_31 rfl ?_
    refine zg_iaddN dL_sides_32 ?_
    refine zg_cW (As := [.inr 0, .inl (nI (k % 4)), .inl (nI (k / 4)), .inl (nI (100 + k))]) (S := []) (k := 0) (N := (wP (k + 1))) dL_sides_33 (ws_w q hq (by omega)) lk_writes.1 lk_writes.2 zi_L_writes rfl ⟨by decide, by decide⟩ ⟨by omega, by omega⟩ rfl (Nat.le_of_ble_eq_true rfl) ?_
    refine zg_st (pc' := 36) (L' := [some (.inl (nI X)), some (.inr 0), some (.inl (nI 1)), some (.inl (nI k)), none, none, none]) (S' := [.inl 0]) (M' := (wP (k + 1))) rfl rfl rfl rfl ?_
    refine zg_jf (tgt := 43) dL_sides_36 rfl (fun z => z rfl) ?_
    refine zg_iconst (v := nI 1) dL_sides_39 (by decide) ?_
    refine zg_goto (tgt := 44) dL_sides_40 rfl ?_
    refine zg_istore_n dL_sides_44 (by decide) ?_
    refine zg_st (pc' := 45) (L' := [some (.inl (nI X)), some (.inr 0), some (.inl (nI 1)), some (.inl (nI k)), none, none, none]) (S' := []) (M' := (wP (k + 1))) rfl rfl rfl rfl ?_
    refine zg_iincN (a := k) dL_sides_45 rfl (Nat.le_of_ble_eq_true rfl) ?_
    refine zg_st (pc' := 48) (L' := [some (.inl (nI X)), some (.inr 0), some (.inl (nI 1)), some (.inl (nI (k + 1))), none, none, none]) (S' := []) (M' := (wP (k + 1))) rfl rfl rfl rfl ?_
    refine zg_goto (tgt := 12) dL_sides_48 rfl ?_
    exact ih (k + 1) _ _ (by omega) ⟨by omega, by omega⟩
theorem sd_8 (q : ZQ) (hq : q.1.stackTraces = false) (X : Nat) (hX : X < 2 ^ 31) {ce sl : Nat} (hc : ce + 281 ≤ 310 ∧ sl + 1686 ≤ 2700) : Zg (zgX q) mL_sides 310 2700 ce sl (.inl (some 1), (f_X4_scrub (sQ X 20)).2) 8 [some (.inl (nI X)), some (.inr 0), none, none, none, none, none] [] P0 := by
  refine zg_iconst (v := nI 1) dL_sides_8 (by decide) ?_
  refine zg_istore_n dL_sides_9 (by decide) ?_
  refine zg_st (pc' := 10) (L' := [some (.inl (nI X)), some (.inr 0), some (.inl (nI 1)), none, none, none, none]) (S' := []) (M' := P0) rfl rfl rfl rfl ?_
  refine zg_iconst (v := nI 0) dL_sides_10 (by decide) ?_
  refine zg_istore_n dL_sides_11 (by decide) ?_
  refine zg_st (pc' := 12) (L' := [some (.inl (nI X)), some (.inr 0), some (.inl (nI 1)), some (.inl (nI 0)), none, none, none]) (S' := []) (M' := P0) rfl rfl rfl rfl ?_
  exact sd_12 q hq X hX 20 0 _ _ (by omega) ⟨by omega, by omega⟩
end
