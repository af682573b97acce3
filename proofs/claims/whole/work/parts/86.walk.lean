/-! ===== THE LAW, from its entry ===== -/
section
set_option maxHeartbeats 4000000 in
set_option maxRecDepth 100000 in
/-- the law comes to its end with true -/
theorem whole_start {p : Program} {e : Env} {s : State} {m : MethodId} {below : List Frame} {meth : Method} {c : Code} (l : Launch) (hflags : l.flags = flags0) {b L : Nat} {xs : Nat → Int32} (hL : L ≤ 2048) (C0 : lw_At p s m meth c b L xs) : W p l e room_1 s m #[Value.ref b] below meth c s.heap [] 0 0 (lw_Z below #[Value.ref b] s) (entryFrame m ([Value.ref b] : List Value).toArray 7) := by
  obtain ⟨hx, hb, hr, hml, hown, hts, hX, hbl, hlocks, hgv⟩ := id C0
  have ht : ∀ w ∈ zTB, w.before #[Value.ref b] s = true := fun w hw => hts w (zTB_in hw)
  obtain ⟨q, hq1, hK⟩ := st_K hts hgv l
  subst hq1
  have hE := st_E hts hgv
  have hNc := st_Nc hgv
  have hst : q.1.stackTraces = false := by unfold Launch.stackTraces; rw [hflags]; decide +kernel
  have S : CallFix p m c code 7 s #[Value.ref b] zTB RL := ⟨hx, hb, hml, hown, ht⟩
  have hA : ∀ a : Nat, s.heap.size ≤ a → lA0 s a := fun _ h => h
  have hS : va_S (lA0 s) s.heap s.heap [] := va_S.rf
  have hP : va_P q.2.1 vwCl [] s.heap := fun k z h => by simp at h
  have hD : va_D (lA0 s) [] := ⟨fun i j p q h => by simp at h, fun k q h => by simp at h⟩
  have hl := lv_entry ([.ref b]) (n := 7) (Nat.le_of_ble_eq_true rfl)
  rw [lg_entry_eq]
  generalize (lg_sl ([.ref b]) ++ List.replicate (7 - (lg_sl ([.ref b])).length) Slot.unset).toArray = ls at hl ⊢
  have hl : lv_has ls 7 [(0, .ref b)] := hl
  refine va_new (ci := 4) (fs := [.null, .null, .null, .null, .null, .int 0]) (C := RX4) (T := TX4) (N := 6) hx hb ht zu_X4 tyX4 tyX4_ok hown (ht _ (zm1 14 (by decide +kernel) rfl)) (ht _ (zm1 15 (by decide +kernel) rfl)) (ht _ (zm1 1 (by decide +kernel) rfl)) hK.1 hP hD hS hA rfl (fun j hj => by rcases (show j = 0 ∨ j = 1 ∨ j = 2 ∨ j = 3 ∨ j = 4 ∨ j = 5 by omega) with rfl | rfl | rfl | rfl | rfl | rfl <;> rfl) (Nat.le_of_ble_eq_true rfl) (Nat.le_of_ble_eq_true rfl) dL_law_0 (fun q0 H hP hD hS => ?_)
  refine lv_dup hx hb dL_law_3 rfl ?_
  refine kw_init S hK hE hA hP hD hS dL_law_4 (c_X4_init q) (zm1 16 (by decide +kernel) rfl) zi_X4_init (zm1 17 (by decide +kernel) rfl) rfl ⟨(Nat.le_of_ble_eq_true rfl), (Nat.le_of_ble_eq_true rfl)⟩ hl.1 (Nat.le_of_ble_eq_true rfl) ⟨(Nat.le_of_ble_eq_true rfl), (Nat.le_of_ble_eq_true rfl)⟩ (fun w1 H locs hw hP hD hS => ?_)
  obtain ⟨aX, M, rfl, hq0, hM0⟩ := hw
  refine lv_astore_n (lv' := [(1, .ref q0), (0, .ref b)]) hx hb dL_law_7 rfl hl (by decide) rfl (fun ls hl => ?_)
  refine va_new (ci := 5) (fs := [.int 0, .int 0, .int 0, .null, .null, .null, .null, .null, .null, .null, .null, .null, .null, .null, .null, .null, .null, .null, .null, .int 0]) (C := RX5) (T := TX5) (N := 20) hx hb ht zu_X5 tyX5 tyX5_ok hown (ht _ (zm3 209 (by decide +kernel) rfl)) (ht _ (zm3 210 (by decide +kernel) rfl)) (ht _ (zm1 7 (by decide +kernel) rfl)) hK.1 hP hD hS hA rfl (fun j hj => by rcases (show j = 0 ∨ j = 1 ∨ j = 2 ∨ j = 3 ∨ j = 4 ∨ j = 5 ∨ j = 6 ∨ j = 7 ∨ j = 8 ∨ j = 9 ∨ j = 10 ∨ j = 11 ∨ j = 12 ∨ j = 13 ∨ j = 14 ∨ j = 15 ∨ j = 16 ∨ j = 17 ∨ j = 18 ∨ j = 19 by omega) with rfl | rfl | rfl | rfl | rfl | rfl | rfl | rfl | rfl | rfl | rfl | rfl | rfl | rfl | rfl | rfl | rfl | rfl | rfl | rfl <;> rfl) (Nat.le_of_ble_eq_true rfl) (Nat.le_of_ble_eq_true rfl) dL_law_8 (fun q1 H hP hD hS => ?_)
  refine lv_dup hx hb dL_law_11 rfl ?_
  refine kw_init S hK hE hA hP hD hS dL_law_12 (c_X5_init q) (zm3 211 (by decide +kernel) rfl) zi_X5_init (zm3 212 (by decide +kernel) rfl) rfl ⟨(Nat.le_of_ble_eq_true rfl), (Nat.le_of_ble_eq_true rfl)⟩ hl.1 (Nat.le_of_ble_eq_true rfl) ⟨(Nat.le_of_ble_eq_true rfl), (Nat.le_of_ble_eq_true rfl)⟩ (fun w1 H locs hw hP hD hS => ?_)
  obtain ⟨aM, N, rfl, hq1, hN0⟩ := hw
  refine lv_astore_n (lv' := [(2, .ref q1), (1, .ref q0), (0, .ref b)]) hx hb dL_law_15 rfl hl (by decide) rfl (fun ls hl => ?_)
  refine lv_iconst (v := 1) hx hb dL_law_16 (by decide) ?_
  refine va_newa (atype := .long) (ty := .long) hx hb (ht (.arrayClass .long) (zm5 21 (by decide +kernel) rfl)) rfl hK.1 hP hD hS hA (a0 := (1, .inr (.inl (fun _ => 0)))) (fun _ => rfl) (by decide) (N' := 1) (by decide) (Nat.le_of_ble_eq_true rfl) (Nat.le_of_ble_eq_true rfl) (Nat.le_of_ble_eq_true rfl) dL_law_17 (fun o cL H hK1 hP hD hS => ?_)
  refine lv_astore_n (lv' := [(3, .ref o), (2, .ref q1), (1, .ref q0), (0, .ref b)]) hx hb dL_law_19 rfl hl (by decide) rfl (fun ls hl => ?_)
  refine lv_iconst (v := nI 0) hx hb dL_law_20 (by decide) ?_
  refine lv_istore (lv' := [(4, .int (nI 0)), (3, .ref o), (2, .ref q1), (1, .ref q0), (0, .ref b)]) hx hb dL_law_21 hl (by decide) rfl (fun ls hl => ?_)
  have hKL : va_K q.2.1 vwCl [(cL, .long)] s := hK1.sub [2] rfl
  have hD' : va_D (lA0 s) ((zws (zgX (q.1, q.2.1, q.2.2, aX)) M ++ zws (zgM (q.1, q.2.1, q.2.2, aM)) N) ++ [zlo o cL 0]) := hD
  have hP' : va_P q.2.1 vwCl ((zws (zgX (q.1, q.2.1, q.2.2, aX)) M ++ zws (zgM (q.1, q.2.1, q.2.2, aM)) N) ++ [zlo o cL 0]) H := hP
  subst hq0 hq1
  have C : lwC (q.1, q.2.1, q.2.2, aX) aM o cL b L xs p s m meth c := ⟨S, ⟨hr, hlocks⟩, ⟨hK, hE, hA⟩, hKL, hNc, ⟨hX, hbl, hL⟩, hst, zD_all hD'⟩
  exact law_loop C (L + 1) 0 M N 0 H _ ls _ _ (by omega) (Nat.zero_le L) (r_start hM0 hN0) (va_P.app (zP_l (zP_l hP')) (zP_r hP')) (zP_r (zP_l hP')) hS (lv_sub hl [4, 3, 2, 1, 0] rfl) (by decide) (by decide)
end
