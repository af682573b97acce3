/-! ===== by program (wip/p29/walk.py): the law, from its entry ===== -/
section
/-- the law's world: two new pools, and new arrays -/
def aL (a0 a1 : Nat → Nat) (o1 o2 o3 o4 o5 : Nat) : Nat → Nat := fun k => if k < 20 then a0 k else if k < 40 then a1 (k - 20) else if k = 40 then o1 else if k = 41 then o2 else if k = 42 then o3 else if k = 43 then o4 else o5
theorem aL_ws (l : Launch) (D : va_G) (ids : ClassId × ClassId × ClassId) (a0 a1 : Nat → Nat) (o1 o2 o3 o4 o5 : Nat) (P R : Mem) (a b c d e : Nat → Int32) : zws (zgL (l, D, ids, aL a0 a1 o1 o2 o3 o4 o5)) (LM P R (f5 a b c d e)) =
    zws (zgX (l, D, ids, a0)) P ++ zws (zgX (l, D, ids, a1)) R ++ [(o1, .inl (ids.1, 48, .inl a)), (o2, .inl (ids.1, 48, .inl b)), (o3, .inl (ids.1, 48, .inl c)), (o4, .inl (ids.1, 48, .inl d)), (o5, .inl (ids.2.2, 3, .inr (.inl (zbl e))))] := rfl
theorem zbl_z : zbl (fun _ => 0) = fun _ => 0 := funext fun j => zbl_0 j
set_option maxHeartbeats 4000000 in
set_option maxRecDepth 100000 in
/-- the law comes to its end with true -/
theorem whole_start {p : Program} {e : Env} {s : State} {m : MethodId} {below : List Frame} {meth : Method} {c : Code} (l : Launch) (hflags : l.flags = flags0) {b L : Nat} {xs : Nat → Int32} (hL : L ≤ 260) (C0 : lw_At p s m meth c b L xs) : W p l e room_1 s m #[Value.ref b] below meth c s.heap [] 0 0 (lw_Z below #[Value.ref b] s) (entryFrame m ([Value.ref b] : List Value).toArray 12) := by
  obtain ⟨hx, hb, hr, hml, hown, hts, hX, hbl, hlocks, hgv⟩ := id C0
  have ht : ∀ w ∈ zTB, w.before #[Value.ref b] s = true := fun w hw => hts w (zTB_in hw)
  obtain ⟨q, hq1, hK⟩ := st_K hts hgv l
  subst hq1
  have hE := st_E hts hgv
  have hst : q.1.stackTraces = false := by unfold Launch.stackTraces; rw [hflags]; decide +kernel
  have S : CallFix p m c code 12 s #[Value.ref b] zTB RL := ⟨hx, hb, hml, hown, ht⟩
  have hA : ∀ a : Nat, s.heap.size ≤ a → lA0 s a := fun _ h => h
  have hS : va_S (lA0 s) s.heap s.heap [] := va_S.rf
  have hPa : va_P q.2.1 vwCl [] s.heap := fun k z h => by simp at h
  have hDa : va_D (lA0 s) [] := ⟨fun i j p q h => by simp at h, fun k q h => by simp at h⟩
  have hl := lv_entry ([.ref b]) (n := 12) (Nat.le_of_ble_eq_true rfl)
  rw [lg_entry_eq]
  generalize (lg_sl ([.ref b]) ++ List.replicate (12 - (lg_sl ([.ref b])).length) Slot.unset).toArray = ls at hl ⊢
  have hl : lv_has ls 12 [(0, .ref b)] := hl
  refine va_new (ci := 4) (fs := [.null, .null, .null, .null, .null, .int 0]) (C := RX4) (T := TX4) (N := 6) hx hb ht zu_X4 tyX4 tyX4_ok hown (ht _ (zm1 13 (by decide +kernel) rfl)) (ht _ (zm1 14 (by decide +kernel) rfl)) (ht _ (zm1 1 (by decide +kernel) rfl)) hK.1 hPa hDa hS hA rfl (fun j hj => by rcases (show j = 0 ∨ j = 1 ∨ j = 2 ∨ j = 3 ∨ j = 4 ∨ j = 5 by omega) with rfl | rfl | rfl | rfl | rfl | rfl <;> rfl) (Nat.le_of_ble_eq_true rfl) (Nat.le_of_ble_eq_true rfl) dL_law_0 (fun q0 H hPa hDa hS => ?_)
  refine lv_dup hx hb dL_law_3 rfl ?_
  refine kw_init S hK hE hA hPa hDa hS dL_law_4 (c_X4_init q) (zm1 15 (by decide +kernel) rfl) zi_X4_init (zm1 16 (by decide +kernel) rfl) rfl ⟨(Nat.le_of_ble_eq_true rfl), (Nat.le_of_ble_eq_true rfl)⟩ hl.1 (Nat.le_of_ble_eq_true rfl) ⟨(Nat.le_of_ble_eq_true rfl), (Nat.le_of_ble_eq_true rfl)⟩ (fun w1 H locs hw hPa hDa hS => ?_)
  obtain ⟨a0, M0, rfl, hq0, hM0⟩ := hw
  refine lv_astore_n (lv' := [(1, .ref q0), (0, .ref b)]) hx hb dL_law_7 rfl hl (by decide) rfl (fun ls hl => ?_)
  refine va_new (ci := 4) (fs := [.null, .null, .null, .null, .null, .int 0]) (C := RX4) (T := TX4) (N := 6) hx hb ht zu_X4 tyX4 tyX4_ok hown (ht _ (zm1 13 (by decide +kernel) rfl)) (ht _ (zm1 14 (by decide +kernel) rfl)) (ht _ (zm1 1 (by decide +kernel) rfl)) hK.1 hPa hDa hS hA rfl (fun j hj => by rcases (show j = 0 ∨ j = 1 ∨ j = 2 ∨ j = 3 ∨ j = 4 ∨ j = 5 by omega) with rfl | rfl | rfl | rfl | rfl | rfl <;> rfl) (Nat.le_of_ble_eq_true rfl) (Nat.le_of_ble_eq_true rfl) dL_law_8 (fun q1 H hPa hDa hS => ?_)
  refine lv_dup hx hb dL_law_11 rfl ?_
  refine kw_init S hK hE hA hPa hDa hS dL_law_12 (c_X4_init q) (zm1 15 (by decide +kernel) rfl) zi_X4_init (zm1 16 (by decide +kernel) rfl) rfl ⟨(Nat.le_of_ble_eq_true rfl), (Nat.le_of_ble_eq_true rfl)⟩ hl.1 (Nat.le_of_ble_eq_true rfl) ⟨(Nat.le_of_ble_eq_true rfl), (Nat.le_of_ble_eq_true rfl)⟩ (fun w1 H locs hw hPa hDa hS => ?_)
  obtain ⟨a1, M1, rfl, hq1, hM1⟩ := hw
  refine lv_astore_n (lv' := [(2, .ref q1), (1, .ref q0), (0, .ref b)]) hx hb dL_law_15 rfl hl (by decide) rfl (fun ls hl => ?_)
  refine lv_bipush (v := 48) hx hb dL_law_16 (by decide) ?_
  refine va_newa (atype := .int) (ty := .int) hx hb (ht (.arrayClass .int) (zm1 41 (by decide +kernel) rfl)) rfl hK.1 hPa hDa hS hA (a0 := (48, .inl (fun _ => 0))) (fun _ => rfl) (by decide) (N' := 48) (by decide) (Nat.le_of_ble_eq_true rfl) (Nat.le_of_ble_eq_true rfl) (Nat.le_of_ble_eq_true rfl) dL_law_18 (fun o1 cA H hK1 hPa hDa hS => ?_)
  have e1 : s.vm.findClass ("[" ++ FieldType.int.toString) = some cA := (hK1.2 3 (cA, .int) rfl).2
  have e2 : s.vm.findClass ("[" ++ FieldType.int.toString) = some q.2.2.1 := (hK.1.2 0 (q.2.2.1, .int) rfl).2
  cases Option.some.inj (e1.symm.trans e2)
  refine lv_astore_n (lv' := [(3, .ref o1), (2, .ref q1), (1, .ref q0), (0, .ref b)]) hx hb dL_law_20 rfl hl (by decide) rfl (fun ls hl => ?_)
  refine lv_bipush (v := 48) hx hb dL_law_21 (by decide) ?_
  refine va_newa (atype := .int) (ty := .int) hx hb (ht (.arrayClass .int) (zm1 41 (by decide +kernel) rfl)) rfl hK.1 hPa hDa hS hA (a0 := (48, .inl (fun _ => 0))) (fun _ => rfl) (by decide) (N' := 48) (by decide) (Nat.le_of_ble_eq_true rfl) (Nat.le_of_ble_eq_true rfl) (Nat.le_of_ble_eq_true rfl) dL_law_23 (fun o2 cA H hK1 hPa hDa hS => ?_)
  have e1 : s.vm.findClass ("[" ++ FieldType.int.toString) = some cA := (hK1.2 3 (cA, .int) rfl).2
  have e2 : s.vm.findClass ("[" ++ FieldType.int.toString) = some q.2.2.1 := (hK.1.2 0 (q.2.2.1, .int) rfl).2
  cases Option.some.inj (e1.symm.trans e2)
  refine lv_astore (lv' := [(4, .ref o2), (3, .ref o1), (2, .ref q1), (1, .ref q0), (0, .ref b)]) hx hb dL_law_25 hl (by decide) rfl (fun ls hl => ?_)
  refine lv_bipush (v := 48) hx hb dL_law_27 (by decide) ?_
  refine va_newa (atype := .int) (ty := .int) hx hb (ht (.arrayClass .int) (zm1 41 (by decide +kernel) rfl)) rfl hK.1 hPa hDa hS hA (a0 := (48, .inl (fun _ => 0))) (fun _ => rfl) (by decide) (N' := 48) (by decide) (Nat.le_of_ble_eq_true rfl) (Nat.le_of_ble_eq_true rfl) (Nat.le_of_ble_eq_true rfl) dL_law_29 (fun o3 cA H hK1 hPa hDa hS => ?_)
  have e1 : s.vm.findClass ("[" ++ FieldType.int.toString) = some cA := (hK1.2 3 (cA, .int) rfl).2
  have e2 : s.vm.findClass ("[" ++ FieldType.int.toString) = some q.2.2.1 := (hK.1.2 0 (q.2.2.1, .int) rfl).2
  cases Option.some.inj (e1.symm.trans e2)
  refine lv_astore (lv' := [(5, .ref o3), (4, .ref o2), (3, .ref o1), (2, .ref q1), (1, .ref q0), (0, .ref b)]) hx hb dL_law_31 hl (by decide) rfl (fun ls hl => ?_)
  refine lv_bipush (v := 48) hx hb dL_law_33 (by decide) ?_
  refine va_newa (atype := .int) (ty := .int) hx hb (ht (.arrayClass .int) (zm1 41 (by decide +kernel) rfl)) rfl hK.1 hPa hDa hS hA (a0 := (48, .inl (fun _ => 0))) (fun _ => rfl) (by decide) (N' := 48) (by decide) (Nat.le_of_ble_eq_true rfl) (Nat.le_of_ble_eq_true rfl) (Nat.le_of_ble_eq_true rfl) dL_law_35 (fun o4 cA H hK1 hPa hDa hS => ?_)
  have e1 : s.vm.findClass ("[" ++ FieldType.int.toString) = some cA := (hK1.2 3 (cA, .int) rfl).2
  have e2 : s.vm.findClass ("[" ++ FieldType.int.toString) = some q.2.2.1 := (hK.1.2 0 (q.2.2.1, .int) rfl).2
  cases Option.some.inj (e1.symm.trans e2)
  refine lv_astore (lv' := [(6, .ref o4), (5, .ref o3), (4, .ref o2), (3, .ref o1), (2, .ref q1), (1, .ref q0), (0, .ref b)]) hx hb dL_law_37 hl (by decide) rfl (fun ls hl => ?_)
  refine lv_iconst (v := 3) hx hb dL_law_39 (by decide) ?_
  refine va_newa (atype := .long) (ty := .long) hx hb (ht (.arrayClass .long) (zm3 237 (by decide +kernel) rfl)) rfl hK.1 hPa hDa hS hA (a0 := (3, .inr (.inl (fun _ => 0)))) (fun _ => rfl) (by decide) (N' := 3) (by decide) (Nat.le_of_ble_eq_true rfl) (Nat.le_of_ble_eq_true rfl) (Nat.le_of_ble_eq_true rfl) dL_law_40 (fun o5 cA H hK1 hPz hDz hS => ?_)
  have e1 : s.vm.findClass ("[" ++ FieldType.long.toString) = some cA := (hK1.2 3 (cA, .long) rfl).2
  have e2 : s.vm.findClass ("[" ++ FieldType.long.toString) = some q.2.2.2.2 := (hK.1.2 2 (q.2.2.2.2, .long) rfl).2
  cases Option.some.inj (e1.symm.trans e2)
  refine lv_astore (lv' := [(7, .ref o5), (6, .ref o4), (5, .ref o3), (4, .ref o2), (3, .ref o1), (2, .ref q1), (1, .ref q0), (0, .ref b)]) hx hb dL_law_42 hl (by decide) rfl (fun ls hl => ?_)
  subst hq0 hq1
  have hZ := aL_ws q.1 q.2.1 q.2.2 a0 a1 o1 o2 o3 o4 o5
  have hPb : lwP (q.1, q.2.1, q.2.2, aL a0 a1 o1 o2 o3 o4 o5) (LM M0 M1 (f5 (fun _ => 0) (fun _ => 0) (fun _ => 0) (fun _ => 0) (fun _ => 0))) H := by
    unfold lwP
    rw [hZ, zbl_z]
    refine va_P.by hPz (fun k => k) (fun k z hz => ?_)
    simpa using hz
  have hDb : va_D (lA0 s) (zws (zgL (q.1, q.2.1, q.2.2, aL a0 a1 o1 o2 o3 o4 o5)) (LM M0 M1 (f5 (fun _ => 0) (fun _ => 0) (fun _ => 0) (fun _ => 0) (fun _ => 0)))) := by
    rw [hZ, zbl_z]
    refine va_D.by hDz (fun k => k) (fun k z hz => ?_) (fun _ _ _ _ h => h)
    simpa using hz
  have C : lwC (q.1, q.2.1, q.2.2, aL a0 a1 o1 o2 o3 o4 o5) b L xs p s m meth c := ⟨S, ⟨hr, hlocks⟩, ⟨hK, hE, hA⟩, ⟨hX, hbl, hL⟩, hst, fun M => zD_any hDb⟩
  have hP : lwP (q.1, q.2.1, q.2.2, aL a0 a1 o1 o2 o3 o4 o5) (LM P0 P0 (f5 (fun _ => 0) (fun _ => 0) (fun _ => 0) (fun _ => 0) (fun _ => 0))) H := by
    unfold lwP at hPb ⊢
    rw [hZ] at hPb ⊢
    exact va_P.app (va_P.app (zP0 (q := (q.1, q.2.1, q.2.2, a0)) hM0 (zP_l (zP_l hPb))) (zP0 (q := (q.1, q.2.1, q.2.2, a1)) hM1 (zP_r (zP_l hPb)))) (zP_r hPb)
  have hl : lv_has ls 12 [(7, .ref o5), (6, .ref o4), (5, .ref o3), (4, .ref o2), (3, .ref o1), (2, .ref (a1 0)), (1, .ref (a0 0)), (0, .ref b)] := hl
  refine lv_bipush (v := nI 14) hx hb dL_law_44 (by decide) ?_
  refine lv_aload_n hx hb dL_law_46 rfl (lv_at hl 7 rfl) ?_
  refine lv_iconst (v := nI 0) hx hb dL_law_47 (by decide) ?_
  refine zl_drawn (q := (q.1, q.2.1, q.2.2, aL a0 a1 o1 o2 o3 o4 o5)) (rest := [.int (nI 14)]) C hP hS dL_law_48 (by decide) hl.1 (Nat.le_of_ble_eq_true rfl) ⟨by decide, by decide⟩ (fun X H locs hX hP hS => ?_)
  refine lv_bipush (v := nI 37) hx hb dL_law_51 (by decide) ?_
  refine lv_irem hx hb dL_law_53 (by decide) ?_
  rw [pk_rem (a := X) (d := 37) (by omega) (by decide) (by decide)]
  refine lv_iadd hx hb dL_law_54 ?_
  rw [nI_add]
  refine lv_istore (lv' := [(8, .int (nI (14 + X % 37))), (7, .ref o5), (6, .ref o4), (5, .ref o3), (4, .ref o2), (3, .ref o1), (2, .ref (a1 0)), (1, .ref (a0 0)), (0, .ref b)]) hx hb dL_law_55 hl (by decide) rfl (fun ls hl => ?_)
  refine lv_iconst (v := nI 1) hx hb dL_law_57 (by decide) ?_
  refine lv_istore (lv' := [(9, .int (nI 1)), (8, .int (nI (14 + X % 37))), (7, .ref o5), (6, .ref o4), (5, .ref o3), (4, .ref o2), (3, .ref o1), (2, .ref (a1 0)), (1, .ref (a0 0)), (0, .ref b)]) hx hb dL_law_58 hl (by decide) rfl (fun ls hl => ?_)
  refine lv_iconst (v := nI 0) hx hb dL_law_60 (by decide) ?_
  refine lv_istore (lv' := [(10, .int (nI 0)), (9, .int (nI 1)), (8, .int (nI (14 + X % 37))), (7, .ref o5), (6, .ref o4), (5, .ref o3), (4, .ref o2), (3, .ref o1), (2, .ref (a1 0)), (1, .ref (a0 0)), (0, .ref b)]) hx hb dL_law_61 hl (by decide) rfl (fun ls hl => ?_)
  exact law_loop (q := (q.1, q.2.1, q.2.2, aL a0 a1 o1 o2 o3 o4 o5)) C (T := 14 + X % 37) (by omega) (14 + X % 37) 0 P0 (fun _ => 0) (fun _ => 0) (fun _ => 0) H locs ls _ _ (by omega) P0_gdd hP hS (lv_sub hl [10, 9, 8, 7, 6, 5, 4, 3, 2, 1, 0] rfl) ⟨by omega, by omega⟩
end
