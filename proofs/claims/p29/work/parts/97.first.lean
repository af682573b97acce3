/-! ===== THE LAW'S PARTS: a new pool's memory; sides, from its entry; drawn; what scrub does twice ===== -/
section
/-- two memories that a cell cannot tell apart -/
def zsm (f f' : Nat → Int32) : ShE → Prop
  | .inl o => ∀ j : Nat, o.2[j]? = some none → f j = f' j
  | .inr (some _, n) => ∀ j : Nat, j < n → f j = f' j
  | .inr (none, _) => f = f'
theorem zfl_eq (g : ZG) {f f' : Nat → Int32} : ∀ (fs : List (Option Nat)) (i : Nat), (∀ j : Nat, fs[j]? = some none → f (i + j) = f' (i + j)) → zfl g f i fs = zfl g f' i fs := by
  intro fs
  induction fs with
  | nil => intro i _; rfl
  | cons o r ih =>
    intro i h
    have h1 : zfv g f i o = zfv g f' i o := by
      cases o with
      | none => show Value.int (f i) = Value.int (f' i); rw [show f i = f' i from h 0 rfl]
      | some k => rfl
    show zfv g f i o :: zfl g f (i + 1) r = zfv g f' i o :: zfl g f' (i + 1) r
    rw [h1, ih (i + 1) (fun j hj => by have h2 := h (j + 1) (by simpa using hj); rw [show i + 1 + j = i + (j + 1) by omega]; exact h2)]
theorem arr_eq {cA : ClassId} {n : Nat} {f f' : Nat → Int32} (h : ∀ j : Nat, j < n → f j = f' j) : vp_cell cA (n, .inl f) = vp_cell cA (n, .inl f') := by
  have e : (fun j : Fin n => Value.int (f j.val)) = fun j : Fin n => Value.int (f' j.val) := by
    funext j
    rw [h j.val j.isLt]
  show arrV cA n (fun j => .int (f j)) = arrV cA n (fun j => .int (f' j))
  unfold arrV
  rw [e]
theorem zcl_at {g : ZG} {f f' : Nat → Int32} {x : ShE} {a : Nat} {D : va_G} {cl : List vw_C} {H : Heap} (h : zsm f f' x) (hc : va_at D cl (a, zcl g f x) H) : va_at D cl (a, zcl g f' x) H := by
  rcases x with ⟨ci, fs⟩ | ⟨b, n⟩
  · have e : zfl g f 0 fs = zfl g f' 0 fs := zfl_eq g fs 0 (fun j hj => by rw [Nat.zero_add]; exact h j hj)
    have hc : va_at D cl (a, .inr (ci, zfl g f 0 fs)) H := hc
    rw [e] at hc
    exact hc
  · rcases b with _ | b
    · have h : f = f' := h
      subst h
      exact hc
    · have h : ∀ j : Nat, j < n → f j = f' j := h
      cases b
      · have hc : H[a]? = some (vp_cell g.2.2.1.1 (n, .inl f)) := hc
        rw [arr_eq h] at hc
        exact hc
      · have hc : H[a]? = some (vp_cell g.2.2.1.2.1 (n, .inl f)) := hc
        rw [arr_eq h] at hc
        exact hc
theorem zP_congr {g : ZG} {M N : Mem} {H : Heap} (h : ∀ (k : Nat) (x : ShE), g.2.2.2.2[k]? = some x → zsm (M k) (N k) x) (hP : va_P g.2.1 vwCl (zws g M) H) : va_P g.2.1 vwCl (zws g N) H := by
  intro k y hy
  obtain ⟨x, hx, rfl⟩ := zws_inv hy
  exact zcl_at (h k x hx) (hP k _ (zws_at hx))
theorem zX0_P0 {M : Mem} (h : zX0 M) : ∀ (k : Nat) (x : ShE), shX[k]? = some x → zsm (M k) (P0 k) x := by
  obtain ⟨a15, a10, a11, a12, a13, a14, a5, a6, a7, a8, a9, a3, a0, a16, a17, a18, a19⟩ := h
  intro k x hx
  match k, hx with
  | 0, hx => cases hx; intro j hj; match j, hj with
    | 0, hj => cases hj
    | 1, hj => cases hj
    | 2, hj => cases hj
    | 3, hj => cases hj
    | 4, hj => cases hj
    | 5, _ => exact a0
    | j + 6, hj => simp at hj
  | 1, hx => cases hx; intro j hj; match j, hj with
    | 0, hj => cases hj
    | 1, hj => cases hj
    | 2, hj => cases hj
    | 3, hj => cases hj
    | j + 4, hj => simp at hj
  | 2, hx => cases hx; intro j hj; match j, hj with
    | 0, hj => cases hj
    | 1, hj => cases hj
    | 2, hj => cases hj
    | 3, hj => cases hj
    | 4, hj => cases hj
    | j + 5, hj => simp at hj
  | 3, hx => cases hx; intro j hj; match j, hj with
    | 0, hj => cases hj
    | 1, _ => exact a3
    | j + 2, hj => simp at hj
  | 4, hx => cases hx; intro j hj; match j, hj with
    | 0, hj => cases hj
    | 1, hj => cases hj
    | 2, hj => cases hj
    | 3, hj => cases hj
    | j + 4, hj => simp at hj
  | 5, hx => cases hx; exact fun j hj => a5 j hj
  | 6, hx => cases hx; exact fun j _ => a6 j
  | 7, hx => cases hx; exact fun j _ => a7 j
  | 8, hx => cases hx; exact fun j _ => a8 j
  | 9, hx => cases hx; exact fun j _ => a9 j
  | 10, hx => cases hx; exact fun j hj => a10 j hj
  | 11, hx => cases hx; exact fun j hj => a11 j hj
  | 12, hx => cases hx; exact fun j hj => a12 j hj
  | 13, hx => cases hx; exact fun j _ => a13 j
  | 14, hx => cases hx; exact fun j _ => a14 j
  | 15, hx => cases hx; exact fun j hj => a15 j hj
  | 16, hx => cases hx; exact fun j _ => a16 j
  | 17, hx => cases hx; exact fun j _ => a17 j
  | 18, hx => cases hx; exact fun j _ => a18 j
  | 19, hx => cases hx; exact fun j _ => a19 j
  | k + 20, hx => simp at hx
theorem zP0 {q : ZQ} {M : Mem} {H : Heap} (h : zX0 M) (hP : va_P q.2.1 vwCl (zws (zgX q) M) H) : va_P q.2.1 vwCl (zws (zgX q) P0) H := zP_congr (g := zgX q) (zX0_P0 h) hP
/-- nothing of the caller's world -/
abbrev zgE (q : ZQ) : ZG := (q.1, q.2.1, q.2.2.1, q.2.2.2, [])
set_option maxHeartbeats 4000000 in
set_option maxRecDepth 100000 in
theorem k_sides (q : ZQ) (hq : q.1.stackTraces = false) (X : Nat) (hX : X < 2 ^ 31) (M : Mem) : Zc (zgE q) mL_sides 310 2700 [.inl (nI X)] M (.inl (some 1), M) := by
  intro sz
  refine vx_ofW (cc := mL_sides.2.1) (maxL := mL_sides.2.2.1) (ret := mL_sides.2.2.2.1) (by decide) rfl ?_
  intro p e s m args' below meth c s₁ Bd hml ht hv
  obtain ⟨rfl, hsz, -, -, hK, hE⟩ := hv
  have hts := atoms_spec (ws := zwm mL_sides) Bd.pre
  have htb : ∀ w ∈ zTB, w.before [Value.int (nI X)].toArray s = true := fun w hw => hts w (List.mem_cons_of_mem _ hw)
  have hown : s.vm.findClass RL = some m.cls := findClass_of_methodNamed Bd.named
  have hl := lv_entry ([.int (nI X)]) (n := 7) (Nat.le_of_ble_eq_true rfl)
  rw [lg_entry_eq]
  show W p q.1 e (zRm mL_sides 310 2700) s m _ below meth c s.heap [] 0 0 _ (F0 m 0 (lg_sl [.int (nI X)] ++ List.replicate (7 - (lg_sl [.int (nI X)]).length) Slot.unset).toArray [])
  generalize (lg_sl ([.int (nI X)]) ++ List.replicate (7 - (lg_sl ([.int (nI X)])).length) Slot.unset).toArray = ls at hl ⊢
  have hl : lv_has ls 7 [(0, .int (nI X))] := hl
  have S : CallFix p m c cL_sides 7 s [Value.int (nI X)].toArray zTB RL := ⟨Bd.exec, Bd.bytes, hml, hown, htb⟩
  have hA : ∀ a : Nat, s.heap.size ≤ a → zA (zgE q) sz a := fun a h => Or.inr (by rw [← hsz]; exact h)
  have hS : va_S (zA (zgE q) sz) s.heap s.heap [] := va_S.rf
  have hP : va_P q.2.1 vwCl [] s.heap := fun k z h => by simp at h
  have hD : va_D (zA (zgE q) sz) [] := ⟨fun i j p q h => by simp at h, fun k q h => by simp at h⟩
  have hK' : zK (kg0 (q.1, q.2.1, q.2.2.1)) s := hK
  refine va_new (ci := 4) (fs := [.null, .null, .null, .null, .null, .int 0]) (C := RX4) (T := TX4) (N := 6) S.1 S.2.1 htb zu_X4 tyX4 tyX4_ok hown (htb _ (zm1 13 (by decide +kernel) rfl)) (htb _ (zm1 14 (by decide +kernel) rfl)) (htb _ (zm1 1 (by decide +kernel) rfl)) hK.1 hP hD hS hA rfl (fun j hj => by rcases (show j = 0 ∨ j = 1 ∨ j = 2 ∨ j = 3 ∨ j = 4 ∨ j = 5 by omega) with rfl | rfl | rfl | rfl | rfl | rfl <;> rfl) (Nat.le_of_ble_eq_true rfl) (Nat.le_of_ble_eq_true rfl) dL_sides_0 (fun q0 H hPa hDa hS => ?_)
  refine lv_dup S.1 S.2.1 dL_sides_3 rfl ?_
  refine kw_init (q := (q.1, q.2.1, q.2.2.1)) S hK' hE hA hPa hDa hS dL_sides_4 (c_X4_init (q.1, q.2.1, q.2.2.1)) (zm1 15 (by decide +kernel) rfl) zi_X4_init (zm1 16 (by decide +kernel) rfl) rfl ⟨(Nat.le_of_ble_eq_true rfl), (Nat.le_of_ble_eq_true rfl)⟩ hl.1 (Nat.le_of_ble_eq_true rfl) ⟨(Nat.le_of_ble_eq_true rfl), (Nat.le_of_ble_eq_true rfl)⟩ (fun w1 H locs hw hP hD hS => ?_)
  obtain ⟨aX, M1, rfl, hq0, hM0⟩ := hw
  refine lv_astore_n (lv' := [(1, .ref q0), (0, .int (nI X))]) S.1 S.2.1 dL_sides_7 rfl hl (by decide) rfl (fun ls hl => ?_)
  subst hq0
  have hEq : zA (zgX (q.1, q.2.1, q.2.2.1, aX)) sz = zA (zgE q) sz := by
    funext a
    refine propext ⟨fun h => ?_, fun h => ?_⟩
    · rcases h with ⟨k, x, hx, rfl⟩ | h
      · exact (zD_r (w1 := []) hD).2 k _ (zws_at (g := zgX (q.1, q.2.1, q.2.2.1, aX)) (M := M1) hx)
      · exact Or.inr h
    · rcases h with ⟨k, x, hx, _⟩ | h
      · simp at hx
      · exact Or.inr h
  have hP1 : va_P q.2.1 vwCl (zws (zgX (q.1, q.2.1, q.2.2.1, aX)) M1) H := zP_r (w1 := []) hP
  have hg := sd_8 (q.1, q.2.1, q.2.2.1, aX) hq X hX (ce := 20) (sl := 817) ⟨by decide, by decide⟩ p e s m [Value.int (nI X)].toArray below meth c H locs ls sz
    ⟨Bd.exec, Bd.bytes, Bd.returns, hml, hown, htb, Bd.notSynchronized, ht, hK, hsz, by rw [hEq]; exact hE, zi_L_sides.1⟩ (zP0 (q := (q.1, q.2.1, q.2.2.1, aX)) hM0 hP1) (by rw [hEq]; exact zD_any (zD_r (w1 := []) hD)) (by rw [hEq]; exact hS)
    ⟨hl.1, hl.2.1, Nat.le_refl _, fun i v hv => ?_⟩
  · rw [hEq] at hg
    intro T hT Xs
    obtain ⟨t, a1, o, b1, b2, b3⟩ := hg T hT Xs
    refine ⟨t, a1, o, b1, b2, ?_⟩
    rcases b3 with ⟨⟨⟨r, N, hB, ho, -⟩, hF⟩, L, g2, g3⟩ | ⟨a, g0, E, ce, L, ⟨⟨N, hB, -⟩, -⟩, -⟩
    · cases hB
      exact Or.inl ⟨⟨⟨some 1, M, rfl, ho, fun k z h => by simp [zws, zwr] at h⟩, hF⟩, L, g2, g3⟩
    · cases hB
  · match i, hv with
    | 0, hv => cases hv; exact lv_at hl 1 rfl
    | 1, hv => cases hv; exact lv_at hl 0 rfl
    | 2, hv => cases hv
    | 3, hv => cases hv
    | 4, hv => cases hv
    | 5, hv => cases hv
    | 6, hv => cases hv
    | i + 7, hv => simp at hv
end
section
/-- what the script tells, or what stands in its place -/
abbrev mL_drawn : MI := (yL_drawn, cL_drawn, 2, some .int, 1, 40)
theorem zi_L_drawn : zin mL_drawn 2 := ⟨zm1 190 (by decide +kernel) rfl, zm1 0 (by decide +kernel) rfl, ⟨by decide, by decide⟩, by decide +kernel⟩
def drP (b L : Nat) (xs : Nat → Int32) (k : Nat) : Array Value → State → Prop := va_Pc [.ref b, .int (nI k)] (fun U => va_X b L xs U U.heap)
def drQ : Array Value → State → Outcome → State → Prop := fun _ st oc t => (∃ X : Nat, X < 2 ^ 31 ∧ oc = .returned (some (.int (nI X)))) ∧ va_F (fun _ => False) st t
set_option maxHeartbeats 4000000 in
theorem k_drawn (l : Launch) (b L : Nat) (xs : Nat → Int32) (k : Nat) (hk : k < 2 ^ 31) (hL : L < 2 ^ 31) : vx_Met l yL_drawn (zwm mL_drawn) (zRm mL_drawn 0 0) (drP b L xs k) drQ zhX 0 0 (fun _ => False) := by
  refine vx_ofW (cc := mL_drawn.2.1) (maxL := mL_drawn.2.2.1) (ret := mL_drawn.2.2.2.1) (by decide) rfl ?_
  intro p e s m args' below meth c s₁ Bd hml ht hv
  obtain ⟨rfl, hX⟩ := hv
  have hts := atoms_spec (ws := zwm mL_drawn) Bd.pre
  have hbl : b < s.heap.size := by
    obtain ⟨scr, h1, -⟩ := hX
    exact (Array.getElem?_eq_some_iff.mp h1).1
  have hl := lv_entry ([.ref b, .int (nI k)]) (n := 2) (Nat.le_of_ble_eq_true rfl)
  rw [lg_entry_eq]
  show W p l e (zRm mL_drawn 0 0) s m _ below meth c s.heap [] 0 0 _ (F0 m 0 (lg_sl [.ref b, .int (nI k)] ++ List.replicate (2 - (lg_sl [.ref b, .int (nI k)]).length) Slot.unset).toArray [])
  generalize (lg_sl ([.ref b, .int (nI k)]) ++ List.replicate (2 - (lg_sl ([.ref b, .int (nI k)])).length) Slot.unset).toArray = ls at hl ⊢
  have hl : lv_has ls 2 [(0, .ref b), (1, .int (nI k))] := hl
  have hown : s.vm.findClass RL = some m.cls := findClass_of_methodNamed Bd.named
  have hS : va_S (fun _ => False) s.heap s.heap [] := va_S.rf
  have end_ : ∀ v : Int32, W p l e (zRm mL_drawn 0 0) s m [Value.ref b, Value.int (nI k)].toArray below meth c s.heap [] 0 0 (vx_MQ below drQ zhX [Value.ref b, Value.int (nI k)].toArray s 0 0 (fun _ => False)) (F0 m 22 ls [.int v]) := by
    intro v
    refine lv_ldc (v := 2147483647) Bd.exec Bd.bytes hown (hts _ (List.mem_cons_of_mem _ (zm1 192 (by decide +kernel) rfl))) dL_drawn_22 ?_
    refine lv_iand Bd.exec Bd.bytes dL_drawn_24 ?_
    rw [pk_and v 31 (by decide)]
    exact vx_ret (W.zret (v := nI (v.toBitVec.toNat % 2 ^ 31)) Bd.exec Bd.bytes Bd.returns rfl (fun t ht hW => ⟨⟨_, Nat.mod_lt _ (by decide), rfl⟩, hS.F ht⟩) hS.2.2 dL_drawn_25 Bd.notSynchronized)
  refine lv_iload_n Bd.exec Bd.bytes dL_drawn_0 rfl (lv_at hl 1 rfl) ?_
  refine lv_aload_n Bd.exec Bd.bytes dL_drawn_1 rfl (lv_at hl 0 rfl) ?_
  refine va_slen (A := fun _ => False) Bd.exec Bd.bytes hX hbl (fun h => h) hS dL_drawn_2 ?_
  refine lv_icmp_ge (tgt := 12) Bd.exec Bd.bytes dL_drawn_3 (by decide) (fun h => ?_) (fun h => ?_)
  · refine lv_ldc (v := 15522611) Bd.exec Bd.bytes hown (hts _ (List.mem_cons_of_mem _ (zm1 191 (by decide +kernel) rfl))) dL_drawn_12 ?_
    refine lv_iload_n Bd.exec Bd.bytes dL_drawn_14 rfl (lv_at hl 1 rfl) ?_
    refine lv_iconst (v := 3) Bd.exec Bd.bytes dL_drawn_15 (by decide) ?_
    refine lv_iadd Bd.exec Bd.bytes dL_drawn_16 ?_
    refine lv_imul Bd.exec Bd.bytes dL_drawn_17 ?_
    refine lv_sipush (v := 13463) Bd.exec Bd.bytes dL_drawn_18 (by decide) ?_
    refine lv_iadd Bd.exec Bd.bytes dL_drawn_21 ?_
    exact end_ _
  · refine lv_aload_n Bd.exec Bd.bytes dL_drawn_6 rfl (lv_at hl 0 rfl) ?_
    refine lv_iload_n Bd.exec Bd.bytes dL_drawn_7 rfl (lv_at hl 1 rfl) ?_
    rw [Int32.le_iff_toInt_le, show (Int32.ofNat L).toInt = (L : Int) from nI_toInt hL, nI_toInt hk] at h
    refine va_sld (A := fun _ => False) Bd.exec Bd.bytes hX hbl (fun h => h) hS (vp_in_nI (by omega) hL) dL_drawn_8 ?_
    refine lv_goto (tgt := 22) Bd.exec Bd.bytes dL_drawn_9 (by decide) ?_
    exact end_ _
/-- a scrub heals what it can: no less than nothing; at once again, nothing; what is lost stays lost -/
theorem scrub_twice {n : Int} {M : Mem} (h : zI n M) : ¬ (f_X4_scrub M).1 < 0 ∧ (f_X4_scrub (f_X4_scrub M).2).1 = 0 ∧ f_X4_lost (f_X4_scrub (f_X4_scrub M).2).2 = f_X4_lost M := by
  obtain ⟨v, M1, e, hS, hc⟩ := scrub_SC h
  have e1 := hS.2.2.2
  have hle := spc_le hS
  have hlt := spc_lt M
  have hv' : v = nI (spc M - spc M1) := by
    rw [← pk_sub hle, ← show v + nI (spc M1) = nI (spc M) from e1, Int32.add_sub_cancel]
  have hf : ∀ q, q < 53 → fe (mup M1 0 5 (M1 0 5 + v)) q = fe M q := fun q hq => by rw [fe_0 hq]; exact hS.2.1 q hq
  have hn2 : ∀ j, j ≠ 0 → (mup M1 0 5 (M1 0 5 + v)) j = M1 j := fun j hj => mset_ne hj
  have hcl : ∀ p, cl p M1 → cl p (mup M1 0 5 (M1 0 5 + v)) := fun p k => by
    unfold cl at k ⊢
    rw [hn2 11 (by decide), hn2 12 (by decide), hn2 8 (by decide), hn2 7 (by decide)]
    exact k
  have hz : zI n (mup M1 0 5 (M1 0 5 + v)) := by have := g_scrub h; rw [e] at this; exact this
  have e2 : f_X4_scrub (mup M1 0 5 (M1 0 5 + v)) = (0, mup (mup M1 0 5 (M1 0 5 + v)) 0 5 ((mup M1 0 5 (M1 0 5 + v)) 0 5 + 0)) := by
    refine scrub_cl hz (fun h52 => ?_)
    have h52' : fe M 52 = true := by rw [← hf 52 (by decide)]; exact h52
    obtain ⟨c1, c2⟩ := hc h52'
    refine ⟨hcl 52 c1, fun f hf4 hfe => ?_⟩
    have hb : ∀ q, q < 53 → fe (mup M1 0 5 (M1 0 5 + v)) q = fe M1 q := fun q hq => fe_0 hq
    obtain ⟨d1, d2⟩ := c2 f hf4 (by rw [← hb (48 + f) (by omega)]; exact hfe)
    exact ⟨hcl _ d1, fun b hb12 hfb => hcl _ (d2 b hb12 (by rw [← hb (12 * f + b) (by omega)]; exact hfb))⟩
  rw [e]
  refine ⟨?_, ?_, ?_⟩
  · show ¬ v < 0
    rw [hv', Int32.lt_iff_toInt_lt]
    exact nI_lt0 (by omega)
  · show (f_X4_scrub (mup M1 0 5 (M1 0 5 + v))).1 = 0
    rw [e2]
  · show f_X4_lost (f_X4_scrub (mup M1 0 5 (M1 0 5 + v))).2 = f_X4_lost M
    rw [e2]
    refine lost_congr ?_ (fun q hq => ?_)
    · show (mup (mup M1 0 5 (M1 0 5 + v)) 0 5 ((mup M1 0 5 (M1 0 5 + v)) 0 5 + 0)) 11 = M 11
      rw [show (mup (mup M1 0 5 (M1 0 5 + v)) 0 5 ((mup M1 0 5 (M1 0 5 + v)) 0 5 + 0)) 11 = (mup M1 0 5 (M1 0 5 + v)) 11 from mset_ne (by decide), hn2 11 (by decide)]
      exact hS.1 11 (by decide)
    · show fe (mup (mup M1 0 5 (M1 0 5 + v)) 0 5 ((mup M1 0 5 (M1 0 5 + v)) 0 5 + 0)) q = fe M q
      rw [fe_0 hq]
      exact hf q hq
end
