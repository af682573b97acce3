/-! ===== THE LAW'S WORLD: two pools, four arrays, and what is noted; its calls ===== -/
section
abbrev shL : List ShE := shT ++ [.inr (false, 48), .inr (false, 48), .inr (false, 48), .inr (false, 48), .inr (none, 3)]
abbrev zgL (q : ZQ) : ZG := (q.1, q.2.1, q.2.2.1, q.2.2.2, shL)
def LM (P R : Mem) (f : Nat → Nat → Int32) : Mem := fun k => if k < 20 then P k else if k < 40 then R (k - 20) else f (k - 40)
def f5 (a b c d e : Nat → Int32) : Nat → Nat → Int32 := fun k => if k = 0 then a else if k = 1 then b else if k = 2 then c else if k = 3 then d else if k = 4 then e else fun _ => 0
theorem LM_0 {P R : Mem} {f : Nat → Nat → Int32} {k : Nat} (h : k < 20) : LM P R f k = P k := if_pos h
theorem LM_1 {P R : Mem} {f : Nat → Nat → Int32} {k : Nat} (h : k < 20) : LM P R f (20 + k) = R k := by
  unfold LM; rw [if_neg (by omega), if_pos (by omega), Nat.add_sub_cancel_left]
theorem LM_2 {P R : Mem} {f : Nat → Nat → Int32} {k : Nat} (h : 40 ≤ k) : LM P R f k = f (k - 40) := by
  unfold LM; rw [if_neg (by omega), if_neg (by omega)]
-- where a small world's cells lie
def eA (o t : Nat) : Nat → Nat := fun k => if k < 20 then o + k else t + k
def eH (o : Nat) : Nat → Nat := fun k => if k < 20 then o + k else if k = 22 then 44 else 20 + k
theorem em_o {em : Nat → Nat} {sh1 : List ShE} {P R P' R' : Mem} {f f' : Nat → Nat → Int32} (h0 : ∀ j, j < 20 → P' j = P j ∨ ∃ k, k < sh1.length ∧ em k = j) (h1 : ∀ j, j < 20 → R' j = R j ∨ ∃ k, k < sh1.length ∧ em k = 20 + j) (h2 : ∀ j, f' j = f j ∨ ∃ k, k < sh1.length ∧ em k = 40 + j) :
    ∀ j, (∀ (k : Nat) (x : ShE), sh1[k]? = some x → em k ≠ j) → LM P' R' f' j = LM P R f j := zEm_ho (fun j hj => by
  have no : ¬ ∃ k, k < sh1.length ∧ em k = j := fun ⟨k, hk, e⟩ => hj k hk e
  by_cases c0 : j < 20
  · rw [LM_0 c0, LM_0 c0]
    exact (h0 j c0).resolve_right no
  · by_cases c1 : j < 40
    · have e : j = 20 + (j - 20) := by omega
      rw [e, LM_1 (by omega), LM_1 (by omega)]
      exact (h1 (j - 20) (by omega)).resolve_right (by rw [← e]; exact no)
    · rw [LM_2 (by omega), LM_2 (by omega)]
      exact (h2 (j - 40)).resolve_right (by rw [show 40 + (j - 40) = j by omega]; exact no))
theorem L_ref (q : ZQ) (hq : q.1.stackTraces = false) (X : Nat) (hX : X < 10000) (P R : Mem) (f : Nat → Nat → Int32) : Zc (zgL q) mL_refuses 60 360 [.inr 20, .inl (nI X)] (LM P R f) (.inl (some 1), LM P R f) := by
  have e : zEm (fun k => 20 + k) shX shL R (LM P R f) := zEm_of (by decide +kernel) (fun k hk => LM_1 hk)
  exact Zc.emb (em := fun k => 20 + k) (k_refuses (zsh 20 q) hq X hX R) e e (fun _ _ => rfl)
theorem eA_m {o t : Nat} {P R m : Mem} {f g : Nat → Nat → Int32} {sh1 : List ShE} (hB : emB (eA o t) sh1 shL = true) (h0 : ∀ k, k < 20 → LM P R f (o + k) = m k) (h1 : ∀ k, 20 ≤ k → k < sh1.length → LM P R f (t + k) = g (k - 20)) : zEm (eA o t) sh1 shL (xm m g) (LM P R f) := zEm_of hB (fun k hk => by
  unfold eA xm
  by_cases h : k < 20
  · rw [if_pos h, if_pos h]; exact h0 k h
  · rw [if_neg h, if_neg h]; exact h1 k (by omega) hk)
theorem f5_2 {l h l' h' c : Nat → Int32} {t : Nat} {P R : Mem} : ∀ k, 20 ≤ k → k < 22 → LM P R (f5 l h l' h' c) (20 + k) = f2 l h (k - 20) := fun k h1 h2 => by
  rcases (by omega : k = 20 ∨ k = 21) with rfl | rfl <;> rfl
theorem f5_3 {l h l' h' c : Nat → Int32} {P R : Mem} : ∀ k, 20 ≤ k → k < 22 → LM P R (f5 l h l' h' c) (22 + k) = f2 l' h' (k - 20) := fun k h1 h2 => by
  rcases (by omega : k = 20 ∨ k = 21) with rfl | rfl <;> rfl
theorem f5_1 {l h l' h' c : Nat → Int32} {P R : Mem} : ∀ k, 20 ≤ k → k < 21 → LM P R (f5 l h l' h' c) (20 + k) = f1 l (k - 20) := fun k h1 h2 => by
  rcases (by omega : k = 20) with rfl; rfl
theorem f5_o {a b c d e a' b' c' d' e' : Nat → Int32} {p : Nat → Prop} (h0 : a' = a ∨ p 0) (h1 : b' = b ∨ p 1) (h2 : c' = c ∨ p 2) (h3 : d' = d ∨ p 3) (h4 : e' = e ∨ p 4) : ∀ j, f5 a' b' c' d' e' j = f5 a b c d e j ∨ p j := by
  intro j
  unfold f5
  by_cases z0 : j = 0
  · subst z0; rw [if_pos rfl, if_pos rfl]; exact h0
  by_cases z1 : j = 1
  · subst z1; rw [if_neg z0, if_neg z0, if_pos rfl, if_pos rfl]; exact h1
  by_cases z2 : j = 2
  · subst z2; rw [if_neg z0, if_neg z0, if_neg z1, if_neg z1, if_pos rfl, if_pos rfl]; exact h2
  by_cases z3 : j = 3
  · subst z3; rw [if_neg z0, if_neg z0, if_neg z1, if_neg z1, if_neg z2, if_neg z2, if_pos rfl, if_pos rfl]; exact h3
  by_cases z4 : j = 4
  · subst z4; rw [if_neg z0, if_neg z0, if_neg z1, if_neg z1, if_neg z2, if_neg z2, if_neg z3, if_neg z3, if_pos rfl, if_pos rfl]; exact h4
  · rw [if_neg z0, if_neg z0, if_neg z1, if_neg z1, if_neg z2, if_neg z2, if_neg z3, if_neg z3, if_neg z4, if_neg z4]; exact Or.inl rfl
theorem L_act1 (q : ZQ) (hq : q.1.stackTraces = false) (X : Nat) (hX : X < 2 ^ 31) {P P' R : Mem} {l h l2 h2 l' h' c : Nat → Int32} {v : Int32} (hz : f_act X P l h = (v, P', l2, h2)) :
    Zc (zgL q) mL_act 2 12 [.inr 0, .inl (nI X), .inr 40, .inr 41] (LM P R (f5 l h l' h' c)) (.inl (some v), LM P' R (f5 l2 h2 l' h' c)) := by
  have k := k_act (q.1, q.2.1, q.2.2.1, fun k => q.2.2.2 (eA 0 20 k)) hq X hX P l h
  rw [hz] at k
  refine Zc.emb (em := eA 0 20) (n := xm P' (f2 l2 h2)) k (eA_m (by decide +kernel) (fun k hk => by rw [Nat.zero_add]; exact LM_0 hk) (f5_2 (t := 0))) (eA_m (by decide +kernel) (fun k hk => by rw [Nat.zero_add]; exact LM_0 hk) (f5_2 (t := 0))) (em_o (fun j hj => Or.inr ⟨j, show j < 22 by omega, by unfold eA; rw [if_pos hj, Nat.zero_add]⟩) (fun _ _ => Or.inl rfl) (f5_o (p := fun j => ∃ k, k < 22 ∧ eA 0 20 k = 40 + j) (Or.inr ⟨20, by decide, rfl⟩) (Or.inr ⟨21, by decide, rfl⟩) (Or.inl rfl) (Or.inl rfl) (Or.inl rfl)))
theorem L_act2 (q : ZQ) (hq : q.1.stackTraces = false) (X : Nat) (hX : X < 2 ^ 31) {P R R' : Mem} {l h l2 h2 l' h' c : Nat → Int32} {v : Int32} (hz : f_act X R l' h' = (v, R', l2, h2)) :
    Zc (zgL q) mL_act 2 12 [.inr 20, .inl (nI X), .inr 42, .inr 43] (LM P R (f5 l h l' h' c)) (.inl (some v), LM P R' (f5 l h l2 h2 c)) := by
  have k := k_act (q.1, q.2.1, q.2.2.1, fun k => q.2.2.2 (eA 20 22 k)) hq X hX R l' h'
  rw [hz] at k
  refine Zc.emb (em := eA 20 22) (n := xm R' (f2 l2 h2)) k (eA_m (by decide +kernel) (fun k hk => LM_1 hk) f5_3) (eA_m (by decide +kernel) (fun k hk => LM_1 hk) f5_3) (em_o (fun _ _ => Or.inl rfl) (fun j hj => Or.inr ⟨j, show j < 22 by omega, by unfold eA; rw [if_pos hj]⟩) (f5_o (p := fun j => ∃ k, k < 22 ∧ eA 20 22 k = 40 + j) (Or.inl rfl) (Or.inl rfl) (Or.inr ⟨20, by decide, rfl⟩) (Or.inr ⟨21, by decide, rfl⟩) (Or.inl rfl)))
theorem L_alike (q : ZQ) (hq : q.1.stackTraces = false) (X : Nat) (hX : X < 2 ^ 31) (P : Mem) (f : Nat → Nat → Int32) : Zc (zgL q) mL_alike 250 1500 [.inr 0, .inr 20, .inl (nI X)] (LM P P f) (.inl (some 1), LM P P f) := by
  have e : zEm (fun k => k) shT shL (dm P P) (LM P P f) := zEm_of (by decide +kernel) (fun k hk => by
    have hk : k < 40 := hk
    unfold LM dm
    by_cases h : k < 20
    · rw [if_pos h, if_pos h]
    · rw [if_neg h, if_neg h, if_pos hk, if_pos hk])
  exact Zc.emb (em := fun k => k) (k_alike q hq X hX P) e e (fun _ _ => rfl)
theorem eH_m {o : Nat} {P R m : Mem} {f g : Nat → Nat → Int32} (hB : emB (eH o) shH shL = true) (h0 : ∀ k, k < 20 → LM P R f (o + k) = m k) (h1 : f 0 = g 0 ∧ f 1 = g 1 ∧ f 4 = g 2) : zEm (eH o) shH shL (xm m g) (LM P R f) := zEm_of hB (fun k hk => by
  have hk : k < 23 := hk
  unfold eH xm
  by_cases h : k < 20
  · rw [if_pos h, if_pos h]; exact h0 k h
  · rw [if_neg h, if_neg h]
    rcases (by omega : k = 20 ∨ k = 21 ∨ k = 22) with rfl | rfl | rfl
    · exact h1.1
    · exact h1.2.1
    · exact h1.2.2)
theorem L_holds2 (q : ZQ) (hq : q.1.stackTraces = false) {P R : Mem} {l h l' h' c : Nat → Int32} (H : HF R l h) : Zc (zgL q) mL_holds 520 3120 [.inr 20, .inr 40, .inr 41, .inr 44] (LM P R (f5 l h l' h' c)) (.inl (some 1), LM P R (f5 l h l' h' (cs R c 53))) :=
  Zc.emb (em := eH 20) (k_holds (q.1, q.2.1, q.2.2.1, fun k => q.2.2.2 (eH 20 k)) hq R l h c H) (eH_m (by decide +kernel) (fun k hk => LM_1 hk) ⟨rfl, rfl, rfl⟩) (eH_m (by decide +kernel) (fun k hk => LM_1 hk) ⟨rfl, rfl, rfl⟩) (em_o (fun _ _ => Or.inl rfl) (fun _ _ => Or.inl rfl) (f5_o (p := fun j => ∃ k, k < 23 ∧ eH 20 k = 40 + j) (Or.inl rfl) (Or.inl rfl) (Or.inl rfl) (Or.inl rfl) (Or.inr ⟨22, by decide, rfl⟩)))
theorem L_holds1 (q : ZQ) (hq : q.1.stackTraces = false) {P R : Mem} {l h l' h' c : Nat → Int32} (H : HF P l h) : Zc (zgL q) mL_holds 520 3120 [.inr 0, .inr 40, .inr 41, .inr 44] (LM P R (f5 l h l' h' c)) (.inl (some 1), LM P R (f5 l h l' h' (cs P c 53))) :=
  Zc.emb (em := eH 0) (k_holds (q.1, q.2.1, q.2.2.1, fun k => q.2.2.2 (eH 0 k)) hq P l h c H) (eH_m (by decide +kernel) (fun k hk => by rw [Nat.zero_add]; exact LM_0 hk) ⟨rfl, rfl, rfl⟩) (eH_m (by decide +kernel) (fun k hk => by rw [Nat.zero_add]; exact LM_0 hk) ⟨rfl, rfl, rfl⟩) (em_o (fun _ _ => Or.inl rfl) (fun _ _ => Or.inl rfl) (f5_o (p := fun j => ∃ k, k < 23 ∧ eH 0 k = 40 + j) (Or.inl rfl) (Or.inl rfl) (Or.inl rfl) (Or.inl rfl) (Or.inr ⟨22, by decide, rfl⟩)))
theorem L_isTrue (q : ZQ) (hq : q.1.stackTraces = false) {P R : Mem} {l h l' h' c : Nat → Int32} (H : TF P l) : Zc (zgL q) mL_isTrue 50 300 [.inr 0, .inr 40] (LM P R (f5 l h l' h' c)) (.inl (some 1), LM (rP P 48) R (f5 l h l' h' c)) :=
  Zc.emb (em := eA 0 20) (k_isTrue (q.1, q.2.1, q.2.2.1, fun k => q.2.2.2 (eA 0 20 k)) hq P l H) (eA_m (by decide +kernel) (fun k hk => by rw [Nat.zero_add]; exact LM_0 hk) f5_1) (eA_m (by decide +kernel) (fun k hk => by rw [Nat.zero_add]; exact LM_0 hk) f5_1) (em_o (fun j hj => Or.inr ⟨j, show j < 21 by omega, by unfold eA; rw [if_pos hj, Nat.zero_add]⟩) (fun _ _ => Or.inl rfl) (fun _ => Or.inl rfl))
theorem eX_m {P R : Mem} {f : Nat → Nat → Int32} : zEm (fun k => k) shX shL P (LM P R f) := zEm_of (by decide +kernel) (fun k hk => LM_0 hk)
theorem L_X {q : ZQ} {μ : MI} {mc ms : Nat} {as : List SV} {P N R : Mem} {f : Nat → Nat → Int32} {r : Option Int32 ⊕ String} (h : Zc (zgX q) μ mc ms as P (r, N)) : Zc (zgL q) μ mc ms (as.map (svm fun k => k)) (LM P R f) (r, LM N R f) :=
  Zc.emb (em := fun k => k) h eX_m eX_m (em_o (fun j hj => Or.inr ⟨j, hj, rfl⟩) (fun _ _ => Or.inl rfl) (fun _ => Or.inl rfl))
theorem L_lost (q : ZQ) (P R : Mem) (f : Nat → Nat → Int32) : Zc (zgL q) mX4_lost 0 0 [.inr 0] (LM P R f) (.inl (some (f_X4_lost P)), LM P R f) := L_X (k_X4_lost q P)
theorem L_scrub (q : ZQ) (P R : Mem) (f : Nat → Nat → Int32) : Zc (zgL q) mX4_scrub 0 0 [.inr 0] (LM P R f) (.inl (some (f_X4_scrub P).1), LM (f_X4_scrub P).2 R f) := L_X (k_X4_scrub q P)
theorem L_sides (q : ZQ) (hq : q.1.stackTraces = false) (X : Nat) (hX : X < 2 ^ 31) (M : Mem) : Zc (zgL q) mL_sides 310 2700 [.inl (nI X)] M (.inl (some 1), M) :=
  Zc.emb (em := fun k => k) (k_sides q hq X hX M) ⟨fun k x h => by simp at h, fun i j x y h => by simp at h⟩ ⟨fun k x h => by simp at h, fun i j x y h => by simp at h⟩ (fun _ _ => rfl)
end
section
def lA0 (s : State) : Nat → Prop := fun q => s.heap.size ≤ q
/-- what stays as it is throughout the law -/
def lwC (q : ZQ) (b L : Nat) (xs : Nat → Int32) (p : Program) (s : State) (m : MethodId) (meth : Method) (c : Code) : Prop :=
  CallFix p m c code 12 s #[Value.ref b] zTB RL ∧ (meth.sig.returnType = ret ∧ meth.locks = false) ∧ zS (zgL q) (lA0 s) s ∧ (va_X b L xs s s.heap ∧ b < s.heap.size ∧ L ≤ 260) ∧ q.1.stackTraces = false ∧ ∀ M : Mem, va_D (lA0 s) (zws (zgL q) M)
def lwP (q : ZQ) (M : Mem) (H : Heap) : Prop := va_P q.2.1 vwCl (zws (zgL q) M) H
section LW
variable {q : ZQ} {b L : Nat} {xs : Nat → Int32} {p : Program} {e : Env} {s : State} {m : MethodId} {below : List Frame} {meth : Method} {c : Code} {H : Heap} {locs : List Loc} {ce sl : Nat} {Q : State → Prop}
variable {ν : MI} {n idx mc' ms' pc : Nat} {M N : Mem} {As : List SV} {rest st0 : List Value} {ls : Array Slot} {r : Int32}
theorem zl_call (C : lwC q b L xs p s m meth c) (hP : lwP q M H) (hS : va_S (lA0 s) s.heap H locs) (d : decode code pc = .ok (.invokestatic idx, 3)) (hm : Zc (zgL q) ν mc' ms' As M (.inl (some r), N)) (hk : Cond.methodLink RL idx ν.1 ∈ zTB ∧ Cond.static ν.1 ∈ zTB) (hi : zin ν n) (hn : As.length = n)
    (hf : ν.2.2.2.2.1 + 1 ≤ 12 ∧ 8 + (ν.2.2.1 + 11) + ν.2.2.2.2.2 ≤ 446) (hls : ls.size = 12) (hst : st0 = (As.map (zv (zgL q))).reverse ++ rest) (hW : (rest.map fun v => v.category).sum ≤ 8) (hc : ce + mc' ≤ 600130 ∧ sl + ms' ≤ 7301080)
    (kk : ∀ (H1 : Heap) (locs1 : List Loc), lwP q N H1 → va_S (lA0 s) s.heap H1 locs1 → W p q.1 e room_1 s m #[Value.ref b] below meth c H1 locs1 (ce + mc') (sl + ms') Q (F0 m (pc + 3) ls (.int r :: rest))) :
    W p q.1 e room_1 s m #[Value.ref b] below meth c H locs ce sl Q (F0 m pc ls st0) := by
  have h0 := C.2.2.1
  have hD := C.2.2.2.2.2 M
  have hq := zh_pre h0 hP hD hS (As.map (zv (zgL q)))
  have hA : ∀ a, zA (zgL q) H.size a → lA0 s a := zA_in h0.2.2 hD hS
  have hr := vx_runS (e := e) (below := below) (meth := meth) (locs := locs) (cells := ce) (slots := sl) (g := F0 m pc ls st0) (As := As.map (zv (zgL q))) (rest := rest) C.1 (hm H.size) ⟨zh_callB (R := room_1) C.1 hi hf hk.1, C.1.2.2.2.2 _ hk.2⟩ hq rfl (by simpa using hn) hls hst (by show 2 * 0 + _ ≤ 8; omega) d hc
  intro T hT X
  rcases hr T hT X with ⟨v, st₀, t, T', L', h0', X', hL', e1, e2, ⟨⟨r', N', hB, hv, hP1⟩, hF⟩, st⟩ | ⟨q9, st₀, t, T', L', E, c9, h0', X', hL', e1, e2, ⟨⟨N', hB, -⟩, -⟩, -⟩
  · cases hB
    cases hv
    obtain ⟨k1, k2, k3⟩ := vx_keep h0' e1 hS (fun a _ h => hA a h) hA hL' hF
    obtain ⟨t2, a1, b1⟩ := kk T'.heap (locs ++ L') (by rw [e1]; exact hP1) k3 T' rfl X'
    exact ⟨t2, st t2 a1, b1⟩
  · cases hB
theorem zl_callV {k ci : Nat} {fs : List (Option Nat)} (C : lwC q b L xs p s m meth c) (hP : lwP q M H) (hS : va_S (lA0 s) s.heap H locs) (d : decode code pc = .ok (.invokevirtual idx, 3)) (hm : Zc (zgL q) ν 0 0 (.inr k :: As) M (.inl (some r), N)) (hk : zlkV RL idx ν n ci) (hcell : shL[k]? = some (.inl (ci, fs))) (hn : As.length = n)
    (hf : ν.2.2.2.2.1 + 1 ≤ 12 ∧ 8 + (ν.2.2.1 + 11) + ν.2.2.2.2.2 ≤ 446) (hls : ls.size = 12) (hst : st0 = (As.map (zv (zgL q))).reverse ++ Value.ref (q.2.2.2 k) :: rest) (hW : (rest.map fun v => v.category).sum ≤ 8) (hc : ce ≤ 600130 ∧ sl ≤ 7301080)
    (kk : ∀ (H1 : Heap) (locs1 : List Loc), lwP q N H1 → va_S (lA0 s) s.heap H1 locs1 → W p q.1 e room_1 s m #[Value.ref b] below meth c H1 locs1 ce sl Q (F0 m (pc + 3) ls (.int r :: rest))) :
    W p q.1 e room_1 s m #[Value.ref b] below meth c H locs ce sl Q (F0 m pc ls st0) := by
  obtain ⟨q1, hq0, l1, l2, l3, hi⟩ := hk
  refine zh_callV (g := zgL q) C.1 C.2.2.1 hP (C.2.2.2.2.2 M) hS d hm l1 l2 l3 hcell hq0 hi hn hf hls hst hW hc (fun E N q9 c9 H1 locs1 hB => by cases hB) (fun r' N' H1 locs1 hB hP1 hk1 hS1 => ?_)
  cases hB
  exact kk H1 locs1 hP1 hS1
theorem zl_drawn {k : Nat} (C : lwC q b L xs p s m meth c) (hP : lwP q M H) (hS : va_S (lA0 s) s.heap H locs) (d : decode code pc = .ok (.invokestatic 166, 3)) (hk : k < 2 ^ 31) (hls : ls.size = 12) (hW : (rest.map fun v => v.category).sum ≤ 8) (hc : ce ≤ 600130 ∧ sl ≤ 7301080)
    (kk : ∀ (X : Nat) (H1 : Heap) (locs1 : List Loc), X < 2 ^ 31 → lwP q M H1 → va_S (lA0 s) s.heap H1 locs1 → W p q.1 e room_1 s m #[Value.ref b] below meth c H1 locs1 ce sl Q (F0 m (pc + 3) ls (.int (nI X) :: rest))) :
    W p q.1 e room_1 s m #[Value.ref b] below meth c H locs ce sl Q (F0 m pc ls (.int (nI k) :: .ref b :: rest)) := by
  obtain ⟨hX, hbl, hL⟩ := C.2.2.2.1
  have hq : PreS s H (drP b L xs k) [.ref b, .int (nI k)] := by
    refine ⟨fun a U gf mk z => ⟨z.1, va_X.moved (u := U) (U := U.calling gf mk a) (State.WarmedH.refl U).alike z.2⟩, fun U hU hw => ⟨rfl, ?_⟩⟩
    show va_X b L xs U U.heap
    rw [hU]
    exact va_X.moved hw.alike (hX.kept (hS.2.1 b hbl (Nat.not_le.mpr hbl)))
  have hr := vx_runS (e := e) (below := below) (meth := meth) (locs := locs) (cells := ce) (slots := sl) (g := F0 m pc ls (.int (nI k) :: .ref b :: rest)) (As := [.ref b, .int (nI k)]) (rest := rest) C.1 (k_drawn q.1 b L xs k hk (by omega)) ⟨zh_callB (R := room_1) (ν := mL_drawn) C.1 zi_L_drawn ⟨by decide, by decide⟩ lk_drawn.1, C.1.2.2.2.2 _ lk_drawn.2⟩ hq rfl rfl hls rfl (by show 2 * 0 + _ ≤ 8; omega) d hc
  intro T hT X
  rcases hr T hT X with ⟨v, st₀, t, T', L', h0', X', hL', e1, e2, ⟨⟨Y, hY, hv⟩, hF⟩, st⟩ | ⟨q9, st₀, t, T', L', E, c9, h0', X', hL', e1, e2, hB, -⟩
  · cases hv
    obtain ⟨k1, k2, k3⟩ := vx_keep (A1 := fun _ => False) h0' e1 hS (fun a _ (h : False) => h.elim) (fun a (h : False) => h.elim) hL' hF
    obtain ⟨t2, a1, b1⟩ := kk Y T'.heap (locs ++ L') hY (va_P.kept hP (fun j z hz => k2 z.1 (hP j z hz).lt (fun h => h))) k3 T' rfl X'
    exact ⟨t2, st t2 a1, b1⟩
  · exact hB.elim
end LW
end
