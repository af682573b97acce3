/-! ===== by program (wip/p29/ctor.py): the class's constructors ===== -/
section
theorem kg_ws {q : KQ} {μ : MI} {h0 mc ms : Nat} {Post : va_W → Prop} {ce sl pc : Nat} {lv : List (Nat × Value)} {S : List Value} {ws ws' : va_W} (e : ws = ws') (h : Kg q μ h0 mc ms Post ce sl pc lv S ws') : Kg q μ h0 mc ms Post ce sl pc lv S ws := by rw [e]; exact h
abbrev mX0_init : MI := (yX0_init, cX0_init, 1, none, 1, 12)
theorem zi_X0_init : zin mX0_init 0 := ⟨zm1 25 (by decide +kernel) rfl, (zm1 2 (by decide +kernel) rfl), ⟨by decide, by decide⟩, by decide +kernel⟩
theorem dX0_init_0 : decode cX0_init 0 = .ok (.aload_n 0, 1) := by decide +kernel
theorem dX0_init_1 : decode cX0_init 1 = .ok (.invokespecial 3, 3) := by decide +kernel
theorem dX0_init_4 : decode cX0_init 4 = .ok (.aload_n 0, 1) := by decide +kernel
theorem dX0_init_5 : decode cX0_init 5 = .ok (.bipush 120, 2) := by decide +kernel
theorem dX0_init_7 : decode cX0_init 7 = .ok (.newarray .boolean, 2) := by decide +kernel
theorem dX0_init_9 : decode cX0_init 9 = .ok (.putfield 9, 3) := by decide +kernel
theorem dX0_init_12 : decode cX0_init 12 = .ok (.aload_n 0, 1) := by decide +kernel
theorem dX0_init_13 : decode cX0_init 13 = .ok (.sipush 240, 3) := by decide +kernel
theorem dX0_init_16 : decode cX0_init 16 = .ok (.newarray .boolean, 2) := by decide +kernel
theorem dX0_init_18 : decode cX0_init 18 = .ok (.putfield 15, 3) := by decide +kernel
theorem dX0_init_21 : decode cX0_init 21 = .ok (.aload_n 0, 1) := by decide +kernel
theorem dX0_init_22 : decode cX0_init 22 = .ok (.bipush 6, 2) := by decide +kernel
theorem dX0_init_24 : decode cX0_init 24 = .ok (.newarray .boolean, 2) := by decide +kernel
theorem dX0_init_26 : decode cX0_init 26 = .ok (.putfield 18, 3) := by decide +kernel
theorem dX0_init_29 : decode cX0_init 29 = .ok (.aload_n 0, 1) := by decide +kernel
theorem dX0_init_30 : decode cX0_init 30 = .ok (.bipush 6, 2) := by decide +kernel
theorem dX0_init_32 : decode cX0_init 32 = .ok (.newarray .int, 2) := by decide +kernel
theorem dX0_init_34 : decode cX0_init 34 = .ok (.putfield 21, 3) := by decide +kernel
theorem dX0_init_37 : decode cX0_init 37 = .ok (.return_, 1) := by decide +kernel
abbrev mX1_init : MI := (yX1_init, cX1_init, 1, none, 1, 12)
theorem zi_X1_init : zin mX1_init 0 := ⟨zm1 86 (by decide +kernel) rfl, (zm1 6 (by decide +kernel) rfl), ⟨by decide, by decide⟩, by decide +kernel⟩
theorem dX1_init_0 : decode cX1_init 0 = .ok (.aload_n 0, 1) := by decide +kernel
theorem dX1_init_1 : decode cX1_init 1 = .ok (.invokespecial 3, 3) := by decide +kernel
theorem dX1_init_4 : decode cX1_init 4 = .ok (.aload_n 0, 1) := by decide +kernel
theorem dX1_init_5 : decode cX1_init 5 = .ok (.iconst 3, 1) := by decide +kernel
theorem dX1_init_6 : decode cX1_init 6 = .ok (.newarray .int, 2) := by decide +kernel
theorem dX1_init_8 : decode cX1_init 8 = .ok (.putfield 9, 3) := by decide +kernel
theorem dX1_init_11 : decode cX1_init 11 = .ok (.aload_n 0, 1) := by decide +kernel
theorem dX1_init_12 : decode cX1_init 12 = .ok (.iconst 3, 1) := by decide +kernel
theorem dX1_init_13 : decode cX1_init 13 = .ok (.newarray .int, 2) := by decide +kernel
theorem dX1_init_15 : decode cX1_init 15 = .ok (.putfield 15, 3) := by decide +kernel
theorem dX1_init_18 : decode cX1_init 18 = .ok (.aload_n 0, 1) := by decide +kernel
theorem dX1_init_19 : decode cX1_init 19 = .ok (.bipush 53, 2) := by decide +kernel
theorem dX1_init_21 : decode cX1_init 21 = .ok (.newarray .int, 2) := by decide +kernel
theorem dX1_init_23 : decode cX1_init 23 = .ok (.putfield 18, 3) := by decide +kernel
theorem dX1_init_26 : decode cX1_init 26 = .ok (.aload_n 0, 1) := by decide +kernel
theorem dX1_init_27 : decode cX1_init 27 = .ok (.bipush 53, 2) := by decide +kernel
theorem dX1_init_29 : decode cX1_init 29 = .ok (.newarray .int, 2) := by decide +kernel
theorem dX1_init_31 : decode cX1_init 31 = .ok (.putfield 21, 3) := by decide +kernel
theorem dX1_init_34 : decode cX1_init 34 = .ok (.return_, 1) := by decide +kernel
abbrev mX2_init : MI := (yX2_init, cX2_init, 1, none, 2, 23)
theorem zi_X2_init : zin mX2_init 0 := ⟨zm1 71 (by decide +kernel) rfl, (zm1 5 (by decide +kernel) rfl), ⟨by decide, by decide⟩, by decide +kernel⟩
theorem dX2_init_0 : decode cX2_init 0 = .ok (.aload_n 0, 1) := by decide +kernel
theorem dX2_init_1 : decode cX2_init 1 = .ok (.invokespecial 3, 3) := by decide +kernel
theorem dX2_init_4 : decode cX2_init 4 = .ok (.aload_n 0, 1) := by decide +kernel
theorem dX2_init_5 : decode cX2_init 5 = .ok (.bipush 48, 2) := by decide +kernel
theorem dX2_init_7 : decode cX2_init 7 = .ok (.newarray .int, 2) := by decide +kernel
theorem dX2_init_9 : decode cX2_init 9 = .ok (.putfield 9, 3) := by decide +kernel
theorem dX2_init_12 : decode cX2_init 12 = .ok (.aload_n 0, 1) := by decide +kernel
theorem dX2_init_13 : decode cX2_init 13 = .ok (.getfield 9, 3) := by decide +kernel
theorem dX2_init_16 : decode cX2_init 16 = .ok (.iconst (-1), 1) := by decide +kernel
theorem dX2_init_17 : decode cX2_init 17 = .ok (.invokestatic 15, 3) := by decide +kernel
theorem dX2_init_20 : decode cX2_init 20 = .ok (.aload_n 0, 1) := by decide +kernel
theorem dX2_init_21 : decode cX2_init 21 = .ok (.iconst 1, 1) := by decide +kernel
theorem dX2_init_22 : decode cX2_init 22 = .ok (.putfield 21, 3) := by decide +kernel
theorem dX2_init_25 : decode cX2_init 25 = .ok (.return_, 1) := by decide +kernel
abbrev mX3_init : MI := (yX3_init, cX3_init, 1, none, 2, 23)
theorem zi_X3_init : zin mX3_init 0 := ⟨zm1 46 (by decide +kernel) rfl, (zm1 3 (by decide +kernel) rfl), ⟨by decide, by decide⟩, by decide +kernel⟩
theorem dX3_init_0 : decode cX3_init 0 = .ok (.aload_n 0, 1) := by decide +kernel
theorem dX3_init_1 : decode cX3_init 1 = .ok (.invokespecial 3, 3) := by decide +kernel
theorem dX3_init_4 : decode cX3_init 4 = .ok (.aload_n 0, 1) := by decide +kernel
theorem dX3_init_5 : decode cX3_init 5 = .ok (.bipush 48, 2) := by decide +kernel
theorem dX3_init_7 : decode cX3_init 7 = .ok (.newarray .int, 2) := by decide +kernel
theorem dX3_init_9 : decode cX3_init 9 = .ok (.putfield 9, 3) := by decide +kernel
theorem dX3_init_12 : decode cX3_init 12 = .ok (.aload_n 0, 1) := by decide +kernel
theorem dX3_init_13 : decode cX3_init 13 = .ok (.getfield 9, 3) := by decide +kernel
theorem dX3_init_16 : decode cX3_init 16 = .ok (.iconst 0, 1) := by decide +kernel
theorem dX3_init_17 : decode cX3_init 17 = .ok (.invokestatic 15, 3) := by decide +kernel
theorem dX3_init_20 : decode cX3_init 20 = .ok (.aload_n 0, 1) := by decide +kernel
theorem dX3_init_21 : decode cX3_init 21 = .ok (.bipush 53, 2) := by decide +kernel
theorem dX3_init_23 : decode cX3_init 23 = .ok (.newarray .int, 2) := by decide +kernel
theorem dX3_init_25 : decode cX3_init 25 = .ok (.putfield 21, 3) := by decide +kernel
theorem dX3_init_28 : decode cX3_init 28 = .ok (.aload_n 0, 1) := by decide +kernel
theorem dX3_init_29 : decode cX3_init 29 = .ok (.getfield 21, 3) := by decide +kernel
theorem dX3_init_32 : decode cX3_init 32 = .ok (.iconst (-1), 1) := by decide +kernel
theorem dX3_init_33 : decode cX3_init 33 = .ok (.invokestatic 15, 3) := by decide +kernel
theorem dX3_init_36 : decode cX3_init 36 = .ok (.aload_n 0, 1) := by decide +kernel
theorem dX3_init_37 : decode cX3_init 37 = .ok (.bipush 53, 2) := by decide +kernel
theorem dX3_init_39 : decode cX3_init 39 = .ok (.newarray .int, 2) := by decide +kernel
theorem dX3_init_41 : decode cX3_init 41 = .ok (.putfield 24, 3) := by decide +kernel
theorem dX3_init_44 : decode cX3_init 44 = .ok (.aload_n 0, 1) := by decide +kernel
theorem dX3_init_45 : decode cX3_init 45 = .ok (.getfield 24, 3) := by decide +kernel
theorem dX3_init_48 : decode cX3_init 48 = .ok (.iconst (-1), 1) := by decide +kernel
theorem dX3_init_49 : decode cX3_init 49 = .ok (.invokestatic 15, 3) := by decide +kernel
theorem dX3_init_52 : decode cX3_init 52 = .ok (.aload_n 0, 1) := by decide +kernel
theorem dX3_init_53 : decode cX3_init 53 = .ok (.bipush 53, 2) := by decide +kernel
theorem dX3_init_55 : decode cX3_init 55 = .ok (.newarray .int, 2) := by decide +kernel
theorem dX3_init_57 : decode cX3_init 57 = .ok (.putfield 27, 3) := by decide +kernel
theorem dX3_init_60 : decode cX3_init 60 = .ok (.aload_n 0, 1) := by decide +kernel
theorem dX3_init_61 : decode cX3_init 61 = .ok (.bipush 53, 2) := by decide +kernel
theorem dX3_init_63 : decode cX3_init 63 = .ok (.newarray .int, 2) := by decide +kernel
theorem dX3_init_65 : decode cX3_init 65 = .ok (.putfield 30, 3) := by decide +kernel
theorem dX3_init_68 : decode cX3_init 68 = .ok (.return_, 1) := by decide +kernel
abbrev mX4_init : MI := (yX4_init, cX4_init, 1, none, 3, 43)
theorem zi_X4_init : zin mX4_init 0 := ⟨zm1 17 (by decide +kernel) rfl, (zm1 1 (by decide +kernel) rfl), ⟨by decide, by decide⟩, by decide +kernel⟩
theorem dX4_init_0 : decode cX4_init 0 = .ok (.aload_n 0, 1) := by decide +kernel
theorem dX4_init_1 : decode cX4_init 1 = .ok (.invokespecial 3, 3) := by decide +kernel
theorem dX4_init_4 : decode cX4_init 4 = .ok (.aload_n 0, 1) := by decide +kernel
theorem dX4_init_5 : decode cX4_init 5 = .ok (.new 9, 3) := by decide +kernel
theorem dX4_init_8 : decode cX4_init 8 = .ok (.dup, 1) := by decide +kernel
theorem dX4_init_9 : decode cX4_init 9 = .ok (.invokespecial 11, 3) := by decide +kernel
theorem dX4_init_12 : decode cX4_init 12 = .ok (.putfield 12, 3) := by decide +kernel
theorem dX4_init_15 : decode cX4_init 15 = .ok (.aload_n 0, 1) := by decide +kernel
theorem dX4_init_16 : decode cX4_init 16 = .ok (.new 16, 3) := by decide +kernel
theorem dX4_init_19 : decode cX4_init 19 = .ok (.dup, 1) := by decide +kernel
theorem dX4_init_20 : decode cX4_init 20 = .ok (.invokespecial 18, 3) := by decide +kernel
theorem dX4_init_23 : decode cX4_init 23 = .ok (.putfield 19, 3) := by decide +kernel
theorem dX4_init_26 : decode cX4_init 26 = .ok (.aload_n 0, 1) := by decide +kernel
theorem dX4_init_27 : decode cX4_init 27 = .ok (.new 23, 3) := by decide +kernel
theorem dX4_init_30 : decode cX4_init 30 = .ok (.dup, 1) := by decide +kernel
theorem dX4_init_31 : decode cX4_init 31 = .ok (.invokespecial 25, 3) := by decide +kernel
theorem dX4_init_34 : decode cX4_init 34 = .ok (.putfield 26, 3) := by decide +kernel
theorem dX4_init_37 : decode cX4_init 37 = .ok (.aload_n 0, 1) := by decide +kernel
theorem dX4_init_38 : decode cX4_init 38 = .ok (.new 30, 3) := by decide +kernel
theorem dX4_init_41 : decode cX4_init 41 = .ok (.dup, 1) := by decide +kernel
theorem dX4_init_42 : decode cX4_init 42 = .ok (.invokespecial 32, 3) := by decide +kernel
theorem dX4_init_45 : decode cX4_init 45 = .ok (.putfield 33, 3) := by decide +kernel
theorem dX4_init_48 : decode cX4_init 48 = .ok (.aload_n 0, 1) := by decide +kernel
theorem dX4_init_49 : decode cX4_init 49 = .ok (.iconst 4, 1) := by decide +kernel
theorem dX4_init_50 : decode cX4_init 50 = .ok (.newarray .int, 2) := by decide +kernel
theorem dX4_init_52 : decode cX4_init 52 = .ok (.putfield 37, 3) := by decide +kernel
theorem dX4_init_55 : decode cX4_init 55 = .ok (.aload_n 0, 1) := by decide +kernel
theorem dX4_init_56 : decode cX4_init 56 = .ok (.getfield 37, 3) := by decide +kernel
theorem dX4_init_59 : decode cX4_init 59 = .ok (.iconst 1, 1) := by decide +kernel
theorem dX4_init_60 : decode cX4_init 60 = .ok (.invokestatic 41, 3) := by decide +kernel
theorem dX4_init_63 : decode cX4_init 63 = .ok (.aload_n 0, 1) := by decide +kernel
theorem dX4_init_64 : decode cX4_init 64 = .ok (.iconst 0, 1) := by decide +kernel
theorem dX4_init_65 : decode cX4_init 65 = .ok (.putfield 47, 3) := by decide +kernel
theorem dX4_init_68 : decode cX4_init 68 = .ok (.return_, 1) := by decide +kernel
def Pst_X0_init (q : KQ) (h0 : Nat) (ws : va_W) : Prop := ∃ a b c d : Nat, ws = [(h0, .inr (0, [.ref a, .ref b, .ref c, .ref d])), (a, .inl (q.2.2.2.1, 120, .inl (fun _ => 0))), (b, .inl (q.2.2.2.1, 240, .inl (fun _ => 0))), (c, .inl (q.2.2.2.1, 6, .inl (fun _ => 0))), (d, .inl (q.2.2.1, 6, .inl (fun _ => 0)))]
theorem zkp_X0_9 : zkp RX0 9 0 0 (.array .boolean) := ⟨RX0, TX0, 4, tyX0, rfl, zu_X0, by decide, (zm1 27 (by decide +kernel) rfl), tyX0_ok, nmX0, Or.inr ⟨rfl, rfl⟩, by decide +kernel⟩
theorem zkp_X0_15 : zkp RX0 15 0 1 (.array .boolean) := ⟨RX0, TX0, 4, tyX0, rfl, zu_X0, by decide, (zm1 28 (by decide +kernel) rfl), tyX0_ok, nmX0, Or.inr ⟨rfl, rfl⟩, by decide +kernel⟩
theorem zkp_X0_18 : zkp RX0 18 0 2 (.array .boolean) := ⟨RX0, TX0, 4, tyX0, rfl, zu_X0, by decide, (zm1 29 (by decide +kernel) rfl), tyX0_ok, nmX0, Or.inr ⟨rfl, rfl⟩, by decide +kernel⟩
theorem zkp_X0_21 : zkp RX0 21 0 3 (.array .int) := ⟨RX0, TX0, 4, tyX0, rfl, zu_X0, by decide, (zm1 30 (by decide +kernel) rfl), tyX0_ok, nmX0, Or.inr ⟨rfl, rfl⟩, by decide +kernel⟩
set_option maxRecDepth 100000 in
set_option maxHeartbeats 4000000 in
theorem c_X0_init (q : KQ) : Kc q mX0_init 4 372 (.inr (0, [.null, .null, .null, .null])) (Pst_X0_init q) := by
  refine Kc.of (by decide) rfl rfl (by decide) (fun h0 => ?_)
  refine kg_aload (i := 0) (j := 0) dX0_init_0 rfl rfl ?_
  refine kg_obj dX0_init_1 (zm1 26 (by decide +kernel) rfl) (zm1 19 (by decide +kernel) rfl) (zm1 20 (by decide +kernel) rfl) ⟨(Nat.le_of_ble_eq_true rfl), (Nat.le_of_ble_eq_true rfl)⟩ ?_
  refine kg_aload (i := 0) (j := 0) dX0_init_4 rfl rfl ?_
  refine kg_bipush (v := 120) dX0_init_5 (by decide) ?_
  refine kg_newB (N := 120) dX0_init_7 (zm1 40 (by decide +kernel) rfl) (by decide) (by decide) (Nat.le_of_ble_eq_true rfl) (Nat.le_of_ble_eq_true rfl) (Nat.le_of_ble_eq_true rfl) (fun a1 => ?_)
  refine kg_ws (ws' := [(h0, .inr (0, [.null, .null, .null, .null])), (a1, .inl (q.2.2.2.1, 120, .inl (fun _ => 0)))]) rfl ?_
  refine kg_put (ci := 0) (k := 0) (j := 0) (v := .ref a1) dX0_init_9 zkp_X0_9 rfl (Nat.le_of_ble_eq_true rfl) rfl rfl ?_
  refine kg_ws (ws' := [(h0, .inr (0, [.ref a1, .null, .null, .null])), (a1, .inl (q.2.2.2.1, 120, .inl (fun _ => 0)))]) rfl ?_
  refine kg_aload (i := 0) (j := 0) dX0_init_12 rfl rfl ?_
  refine kg_sipush (v := 240) dX0_init_13 (by decide) ?_
  refine kg_newB (N := 240) dX0_init_16 (zm1 40 (by decide +kernel) rfl) (by decide) (by decide) (Nat.le_of_ble_eq_true rfl) (Nat.le_of_ble_eq_true rfl) (Nat.le_of_ble_eq_true rfl) (fun a2 => ?_)
  refine kg_ws (ws' := [(h0, .inr (0, [.ref a1, .null, .null, .null])), (a1, .inl (q.2.2.2.1, 120, .inl (fun _ => 0))), (a2, .inl (q.2.2.2.1, 240, .inl (fun _ => 0)))]) rfl ?_
  refine kg_put (ci := 0) (k := 1) (j := 0) (v := .ref a2) dX0_init_18 zkp_X0_15 rfl (Nat.le_of_ble_eq_true rfl) rfl rfl ?_
  refine kg_ws (ws' := [(h0, .inr (0, [.ref a1, .ref a2, .null, .null])), (a1, .inl (q.2.2.2.1, 120, .inl (fun _ => 0))), (a2, .inl (q.2.2.2.1, 240, .inl (fun _ => 0)))]) rfl ?_
  refine kg_aload (i := 0) (j := 0) dX0_init_21 rfl rfl ?_
  refine kg_bipush (v := 6) dX0_init_22 (by decide) ?_
  refine kg_newB (N := 6) dX0_init_24 (zm1 40 (by decide +kernel) rfl) (by decide) (by decide) (Nat.le_of_ble_eq_true rfl) (Nat.le_of_ble_eq_true rfl) (Nat.le_of_ble_eq_true rfl) (fun a3 => ?_)
  refine kg_ws (ws' := [(h0, .inr (0, [.ref a1, .ref a2, .null, .null])), (a1, .inl (q.2.2.2.1, 120, .inl (fun _ => 0))), (a2, .inl (q.2.2.2.1, 240, .inl (fun _ => 0))), (a3, .inl (q.2.2.2.1, 6, .inl (fun _ => 0)))]) rfl ?_
  refine kg_put (ci := 0) (k := 2) (j := 0) (v := .ref a3) dX0_init_26 zkp_X0_18 rfl (Nat.le_of_ble_eq_true rfl) rfl rfl ?_
  refine kg_ws (ws' := [(h0, .inr (0, [.ref a1, .ref a2, .ref a3, .null])), (a1, .inl (q.2.2.2.1, 120, .inl (fun _ => 0))), (a2, .inl (q.2.2.2.1, 240, .inl (fun _ => 0))), (a3, .inl (q.2.2.2.1, 6, .inl (fun _ => 0)))]) rfl ?_
  refine kg_aload (i := 0) (j := 0) dX0_init_29 rfl rfl ?_
  refine kg_bipush (v := 6) dX0_init_30 (by decide) ?_
  refine kg_newI (N := 6) dX0_init_32 (zm1 41 (by decide +kernel) rfl) (by decide) (by decide) (Nat.le_of_ble_eq_true rfl) (Nat.le_of_ble_eq_true rfl) (Nat.le_of_ble_eq_true rfl) (fun a4 => ?_)
  refine kg_ws (ws' := [(h0, .inr (0, [.ref a1, .ref a2, .ref a3, .null])), (a1, .inl (q.2.2.2.1, 120, .inl (fun _ => 0))), (a2, .inl (q.2.2.2.1, 240, .inl (fun _ => 0))), (a3, .inl (q.2.2.2.1, 6, .inl (fun _ => 0))), (a4, .inl (q.2.2.1, 6, .inl (fun _ => 0)))]) rfl ?_
  refine kg_put (ci := 0) (k := 3) (j := 0) (v := .ref a4) dX0_init_34 zkp_X0_21 rfl (Nat.le_of_ble_eq_true rfl) rfl rfl ?_
  refine kg_ws (ws' := [(h0, .inr (0, [.ref a1, .ref a2, .ref a3, .ref a4])), (a1, .inl (q.2.2.2.1, 120, .inl (fun _ => 0))), (a2, .inl (q.2.2.2.1, 240, .inl (fun _ => 0))), (a3, .inl (q.2.2.2.1, 6, .inl (fun _ => 0))), (a4, .inl (q.2.2.1, 6, .inl (fun _ => 0)))]) rfl ?_
  exact kg_ret (ws' := [(h0, .inr (0, [.ref a1, .ref a2, .ref a3, .ref a4])), (a1, .inl (q.2.2.2.1, 120, .inl (fun _ => 0))), (a2, .inl (q.2.2.2.1, 240, .inl (fun _ => 0))), (a3, .inl (q.2.2.2.1, 6, .inl (fun _ => 0))), (a4, .inl (q.2.2.1, 6, .inl (fun _ => 0)))]) dX0_init_37 [0, 1, 2, 3, 4] rfl rfl rfl ⟨a1, a2, a3, a4, rfl⟩ ⟨(Nat.le_of_ble_eq_true rfl), (Nat.le_of_ble_eq_true rfl)⟩
def Pst_X1_init (q : KQ) (h0 : Nat) (ws : va_W) : Prop := ∃ a b c d : Nat, ws = [(h0, .inr (1, [.ref a, .ref b, .ref c, .ref d])), (a, .inl (q.2.2.1, 3, .inl (fun _ => 0))), (b, .inl (q.2.2.1, 3, .inl (fun _ => 0))), (c, .inl (q.2.2.1, 53, .inl (fun _ => 0))), (d, .inl (q.2.2.1, 53, .inl (fun _ => 0)))]
theorem zkp_X1_9 : zkp RX1 9 1 0 (.array .int) := ⟨RX1, TX1, 4, tyX1, rfl, zu_X1, by decide, (zm1 88 (by decide +kernel) rfl), tyX1_ok, nmX1, Or.inr ⟨rfl, rfl⟩, by decide +kernel⟩
theorem zkp_X1_15 : zkp RX1 15 1 1 (.array .int) := ⟨RX1, TX1, 4, tyX1, rfl, zu_X1, by decide, (zm1 89 (by decide +kernel) rfl), tyX1_ok, nmX1, Or.inr ⟨rfl, rfl⟩, by decide +kernel⟩
theorem zkp_X1_18 : zkp RX1 18 1 2 (.array .int) := ⟨RX1, TX1, 4, tyX1, rfl, zu_X1, by decide, (zm1 90 (by decide +kernel) rfl), tyX1_ok, nmX1, Or.inr ⟨rfl, rfl⟩, by decide +kernel⟩
theorem zkp_X1_21 : zkp RX1 21 1 3 (.array .int) := ⟨RX1, TX1, 4, tyX1, rfl, zu_X1, by decide, (zm1 91 (by decide +kernel) rfl), tyX1_ok, nmX1, Or.inr ⟨rfl, rfl⟩, by decide +kernel⟩
set_option maxRecDepth 100000 in
set_option maxHeartbeats 4000000 in
theorem c_X1_init (q : KQ) : Kc q mX1_init 4 112 (.inr (1, [.null, .null, .null, .null])) (Pst_X1_init q) := by
  refine Kc.of (by decide) rfl rfl (by decide) (fun h0 => ?_)
  refine kg_aload (i := 0) (j := 0) dX1_init_0 rfl rfl ?_
  refine kg_obj dX1_init_1 (zm1 87 (by decide +kernel) rfl) (zm1 19 (by decide +kernel) rfl) (zm1 20 (by decide +kernel) rfl) ⟨(Nat.le_of_ble_eq_true rfl), (Nat.le_of_ble_eq_true rfl)⟩ ?_
  refine kg_aload (i := 0) (j := 0) dX1_init_4 rfl rfl ?_
  refine kg_iconst (v := 3) dX1_init_5 (by decide) ?_
  refine kg_newI (N := 3) dX1_init_6 (zm1 41 (by decide +kernel) rfl) (by decide) (by decide) (Nat.le_of_ble_eq_true rfl) (Nat.le_of_ble_eq_true rfl) (Nat.le_of_ble_eq_true rfl) (fun a1 => ?_)
  refine kg_ws (ws' := [(h0, .inr (1, [.null, .null, .null, .null])), (a1, .inl (q.2.2.1, 3, .inl (fun _ => 0)))]) rfl ?_
  refine kg_put (ci := 1) (k := 0) (j := 0) (v := .ref a1) dX1_init_8 zkp_X1_9 rfl (Nat.le_of_ble_eq_true rfl) rfl rfl ?_
  refine kg_ws (ws' := [(h0, .inr (1, [.ref a1, .null, .null, .null])), (a1, .inl (q.2.2.1, 3, .inl (fun _ => 0)))]) rfl ?_
  refine kg_aload (i := 0) (j := 0) dX1_init_11 rfl rfl ?_
  refine kg_iconst (v := 3) dX1_init_12 (by decide) ?_
  refine kg_newI (N := 3) dX1_init_13 (zm1 41 (by decide +kernel) rfl) (by decide) (by decide) (Nat.le_of_ble_eq_true rfl) (Nat.le_of_ble_eq_true rfl) (Nat.le_of_ble_eq_true rfl) (fun a2 => ?_)
  refine kg_ws (ws' := [(h0, .inr (1, [.ref a1, .null, .null, .null])), (a1, .inl (q.2.2.1, 3, .inl (fun _ => 0))), (a2, .inl (q.2.2.1, 3, .inl (fun _ => 0)))]) rfl ?_
  refine kg_put (ci := 1) (k := 1) (j := 0) (v := .ref a2) dX1_init_15 zkp_X1_15 rfl (Nat.le_of_ble_eq_true rfl) rfl rfl ?_
  refine kg_ws (ws' := [(h0, .inr (1, [.ref a1, .ref a2, .null, .null])), (a1, .inl (q.2.2.1, 3, .inl (fun _ => 0))), (a2, .inl (q.2.2.1, 3, .inl (fun _ => 0)))]) rfl ?_
  refine kg_aload (i := 0) (j := 0) dX1_init_18 rfl rfl ?_
  refine kg_bipush (v := 53) dX1_init_19 (by decide) ?_
  refine kg_newI (N := 53) dX1_init_21 (zm1 41 (by decide +kernel) rfl) (by decide) (by decide) (Nat.le_of_ble_eq_true rfl) (Nat.le_of_ble_eq_true rfl) (Nat.le_of_ble_eq_true rfl) (fun a3 => ?_)
  refine kg_ws (ws' := [(h0, .inr (1, [.ref a1, .ref a2, .null, .null])), (a1, .inl (q.2.2.1, 3, .inl (fun _ => 0))), (a2, .inl (q.2.2.1, 3, .inl (fun _ => 0))), (a3, .inl (q.2.2.1, 53, .inl (fun _ => 0)))]) rfl ?_
  refine kg_put (ci := 1) (k := 2) (j := 0) (v := .ref a3) dX1_init_23 zkp_X1_18 rfl (Nat.le_of_ble_eq_true rfl) rfl rfl ?_
  refine kg_ws (ws' := [(h0, .inr (1, [.ref a1, .ref a2, .ref a3, .null])), (a1, .inl (q.2.2.1, 3, .inl (fun _ => 0))), (a2, .inl (q.2.2.1, 3, .inl (fun _ => 0))), (a3, .inl (q.2.2.1, 53, .inl (fun _ => 0)))]) rfl ?_
  refine kg_aload (i := 0) (j := 0) dX1_init_26 rfl rfl ?_
  refine kg_bipush (v := 53) dX1_init_27 (by decide) ?_
  refine kg_newI (N := 53) dX1_init_29 (zm1 41 (by decide +kernel) rfl) (by decide) (by decide) (Nat.le_of_ble_eq_true rfl) (Nat.le_of_ble_eq_true rfl) (Nat.le_of_ble_eq_true rfl) (fun a4 => ?_)
  refine kg_ws (ws' := [(h0, .inr (1, [.ref a1, .ref a2, .ref a3, .null])), (a1, .inl (q.2.2.1, 3, .inl (fun _ => 0))), (a2, .inl (q.2.2.1, 3, .inl (fun _ => 0))), (a3, .inl (q.2.2.1, 53, .inl (fun _ => 0))), (a4, .inl (q.2.2.1, 53, .inl (fun _ => 0)))]) rfl ?_
  refine kg_put (ci := 1) (k := 3) (j := 0) (v := .ref a4) dX1_init_31 zkp_X1_21 rfl (Nat.le_of_ble_eq_true rfl) rfl rfl ?_
  refine kg_ws (ws' := [(h0, .inr (1, [.ref a1, .ref a2, .ref a3, .ref a4])), (a1, .inl (q.2.2.1, 3, .inl (fun _ => 0))), (a2, .inl (q.2.2.1, 3, .inl (fun _ => 0))), (a3, .inl (q.2.2.1, 53, .inl (fun _ => 0))), (a4, .inl (q.2.2.1, 53, .inl (fun _ => 0)))]) rfl ?_
  exact kg_ret (ws' := [(h0, .inr (1, [.ref a1, .ref a2, .ref a3, .ref a4])), (a1, .inl (q.2.2.1, 3, .inl (fun _ => 0))), (a2, .inl (q.2.2.1, 3, .inl (fun _ => 0))), (a3, .inl (q.2.2.1, 53, .inl (fun _ => 0))), (a4, .inl (q.2.2.1, 53, .inl (fun _ => 0)))]) dX1_init_34 [0, 1, 2, 3, 4] rfl rfl rfl ⟨a1, a2, a3, a4, rfl⟩ ⟨(Nat.le_of_ble_eq_true rfl), (Nat.le_of_ble_eq_true rfl)⟩
def Pst_X2_init (q : KQ) (h0 : Nat) (ws : va_W) : Prop := ∃ (a : Nat) (f : Nat → Int32), ws = [(h0, .inr (2, [.ref a, .int 1])), (a, .inl (q.2.2.1, 48, .inl f))] ∧ ∀ k, k < 48 → f k = -1
theorem zkp_X2_9 : zkp RX2 9 2 0 (.array .int) := ⟨RX2, TX2, 2, tyX2, rfl, zu_X2, by decide, (zm1 74 (by decide +kernel) rfl), tyX2_ok, nmX2, Or.inr ⟨rfl, rfl⟩, by decide +kernel⟩
theorem zkp_X2_21 : zkp RX2 21 2 1 (.int) := ⟨RX2, TX2, 2, tyX2, rfl, zu_X2, by decide, (zm1 75 (by decide +kernel) rfl), tyX2_ok, nmX2, Or.inl rfl, by decide +kernel⟩
set_option maxRecDepth 100000 in
set_option maxHeartbeats 4000000 in
theorem c_X2_init (q : KQ) : Kc q mX2_init 1 48 (.inr (2, [.null, .int 0])) (Pst_X2_init q) := by
  refine Kc.of (by decide) rfl rfl (by decide) (fun h0 => ?_)
  refine kg_aload (i := 0) (j := 0) dX2_init_0 rfl rfl ?_
  refine kg_obj dX2_init_1 (zm1 72 (by decide +kernel) rfl) (zm1 19 (by decide +kernel) rfl) (zm1 20 (by decide +kernel) rfl) ⟨(Nat.le_of_ble_eq_true rfl), (Nat.le_of_ble_eq_true rfl)⟩ ?_
  refine kg_aload (i := 0) (j := 0) dX2_init_4 rfl rfl ?_
  refine kg_bipush (v := 48) dX2_init_5 (by decide) ?_
  refine kg_newI (N := 48) dX2_init_7 (zm1 41 (by decide +kernel) rfl) (by decide) (by decide) (Nat.le_of_ble_eq_true rfl) (Nat.le_of_ble_eq_true rfl) (Nat.le_of_ble_eq_true rfl) (fun a1 => ?_)
  refine kg_ws (ws' := [(h0, .inr (2, [.null, .int 0])), (a1, .inl (q.2.2.1, 48, .inl (fun _ => 0)))]) rfl ?_
  refine kg_put (ci := 2) (k := 0) (j := 0) (v := .ref a1) dX2_init_9 zkp_X2_9 rfl (Nat.le_of_ble_eq_true rfl) rfl rfl ?_
  refine kg_ws (ws' := [(h0, .inr (2, [.ref a1, .int 0])), (a1, .inl (q.2.2.1, 48, .inl (fun _ => 0)))]) rfl ?_
  refine kg_aload (i := 0) (j := 0) dX2_init_12 rfl rfl ?_
  refine kg_get (ci := 2) (k := 0) (j := 0) dX2_init_13 zkp_X2_9 rfl rfl ?_
  refine kg_iconst (v := (-1)) dX2_init_16 (by decide) ?_
  refine kg_fill (j := 1) (nn := 48) dX2_init_17 (zm1 73 (by decide +kernel) rfl) (zm1 49 (by decide +kernel) rfl) rfl (Nat.le_of_ble_eq_true rfl) ⟨(Nat.le_of_ble_eq_true rfl), (Nat.le_of_ble_eq_true rfl)⟩ ⟨(Nat.le_of_ble_eq_true rfl), (Nat.le_of_ble_eq_true rfl)⟩ (fun f1 hf1 => ?_)
  refine kg_ws (ws' := [(h0, .inr (2, [.ref a1, .int 0])), (a1, .inl (q.2.2.1, 48, .inl f1))]) rfl ?_
  refine kg_aload (i := 0) (j := 0) dX2_init_20 rfl rfl ?_
  refine kg_iconst (v := 1) dX2_init_21 (by decide) ?_
  refine kg_put (ci := 2) (k := 1) (j := 0) (v := .int 1) dX2_init_22 zkp_X2_21 rfl (Nat.le_of_ble_eq_true rfl) rfl rfl ?_
  refine kg_ws (ws' := [(h0, .inr (2, [.ref a1, .int 1])), (a1, .inl (q.2.2.1, 48, .inl f1))]) rfl ?_
  exact kg_ret (ws' := [(h0, .inr (2, [.ref a1, .int 1])), (a1, .inl (q.2.2.1, 48, .inl f1))]) dX2_init_25 [0, 1] rfl rfl rfl ⟨a1, f1, rfl, hf1⟩ ⟨(Nat.le_of_ble_eq_true rfl), (Nat.le_of_ble_eq_true rfl)⟩
def Pst_X3_init (q : KQ) (h0 : Nat) (ws : va_W) : Prop := ∃ (a b c d e : Nat) (f g h : Nat → Int32), ws = [(h0, .inr (3, [.ref a, .ref b, .ref c, .ref d, .ref e])), (a, .inl (q.2.2.1, 48, .inl f)), (b, .inl (q.2.2.1, 53, .inl g)), (c, .inl (q.2.2.1, 53, .inl h)), (d, .inl (q.2.2.1, 53, .inl (fun _ => 0))), (e, .inl (q.2.2.1, 53, .inl (fun _ => 0)))] ∧ (∀ k, k < 48 → f k = 0) ∧ (∀ k, k < 53 → g k = -1) ∧ (∀ k, k < 53 → h k = -1)
theorem zkp_X3_9 : zkp RX3 9 3 0 (.array .int) := ⟨RX3, TX3, 5, tyX3, rfl, zu_X3, by decide, (zm1 51 (by decide +kernel) rfl), tyX3_ok, nmX3, Or.inr ⟨rfl, rfl⟩, by decide +kernel⟩
theorem zkp_X3_21 : zkp RX3 21 3 1 (.array .int) := ⟨RX3, TX3, 5, tyX3, rfl, zu_X3, by decide, (zm1 52 (by decide +kernel) rfl), tyX3_ok, nmX3, Or.inr ⟨rfl, rfl⟩, by decide +kernel⟩
theorem zkp_X3_24 : zkp RX3 24 3 2 (.array .int) := ⟨RX3, TX3, 5, tyX3, rfl, zu_X3, by decide, (zm1 53 (by decide +kernel) rfl), tyX3_ok, nmX3, Or.inr ⟨rfl, rfl⟩, by decide +kernel⟩
theorem zkp_X3_27 : zkp RX3 27 3 3 (.array .int) := ⟨RX3, TX3, 5, tyX3, rfl, zu_X3, by decide, (zm1 54 (by decide +kernel) rfl), tyX3_ok, nmX3, Or.inr ⟨rfl, rfl⟩, by decide +kernel⟩
theorem zkp_X3_30 : zkp RX3 30 3 4 (.array .int) := ⟨RX3, TX3, 5, tyX3, rfl, zu_X3, by decide, (zm1 55 (by decide +kernel) rfl), tyX3_ok, nmX3, Or.inr ⟨rfl, rfl⟩, by decide +kernel⟩
set_option maxRecDepth 100000 in
set_option maxHeartbeats 4000000 in
theorem c_X3_init (q : KQ) : Kc q mX3_init 5 260 (.inr (3, [.null, .null, .null, .null, .null])) (Pst_X3_init q) := by
  refine Kc.of (by decide) rfl rfl (by decide) (fun h0 => ?_)
  refine kg_aload (i := 0) (j := 0) dX3_init_0 rfl rfl ?_
  refine kg_obj dX3_init_1 (zm1 47 (by decide +kernel) rfl) (zm1 19 (by decide +kernel) rfl) (zm1 20 (by decide +kernel) rfl) ⟨(Nat.le_of_ble_eq_true rfl), (Nat.le_of_ble_eq_true rfl)⟩ ?_
  refine kg_aload (i := 0) (j := 0) dX3_init_4 rfl rfl ?_
  refine kg_bipush (v := 48) dX3_init_5 (by decide) ?_
  refine kg_newI (N := 48) dX3_init_7 (zm1 41 (by decide +kernel) rfl) (by decide) (by decide) (Nat.le_of_ble_eq_true rfl) (Nat.le_of_ble_eq_true rfl) (Nat.le_of_ble_eq_true rfl) (fun a1 => ?_)
  refine kg_ws (ws' := [(h0, .inr (3, [.null, .null, .null, .null, .null])), (a1, .inl (q.2.2.1, 48, .inl (fun _ => 0)))]) rfl ?_
  refine kg_put (ci := 3) (k := 0) (j := 0) (v := .ref a1) dX3_init_9 zkp_X3_9 rfl (Nat.le_of_ble_eq_true rfl) rfl rfl ?_
  refine kg_ws (ws' := [(h0, .inr (3, [.ref a1, .null, .null, .null, .null])), (a1, .inl (q.2.2.1, 48, .inl (fun _ => 0)))]) rfl ?_
  refine kg_aload (i := 0) (j := 0) dX3_init_12 rfl rfl ?_
  refine kg_get (ci := 3) (k := 0) (j := 0) dX3_init_13 zkp_X3_9 rfl rfl ?_
  refine kg_iconst (v := 0) dX3_init_16 (by decide) ?_
  refine kg_fill (j := 1) (nn := 48) dX3_init_17 (zm1 48 (by decide +kernel) rfl) (zm1 49 (by decide +kernel) rfl) rfl (Nat.le_of_ble_eq_true rfl) ⟨(Nat.le_of_ble_eq_true rfl), (Nat.le_of_ble_eq_true rfl)⟩ ⟨(Nat.le_of_ble_eq_true rfl), (Nat.le_of_ble_eq_true rfl)⟩ (fun f1 hf1 => ?_)
  refine kg_ws (ws' := [(h0, .inr (3, [.ref a1, .null, .null, .null, .null])), (a1, .inl (q.2.2.1, 48, .inl f1))]) rfl ?_
  refine kg_aload (i := 0) (j := 0) dX3_init_20 rfl rfl ?_
  refine kg_bipush (v := 53) dX3_init_21 (by decide) ?_
  refine kg_newI (N := 53) dX3_init_23 (zm1 41 (by decide +kernel) rfl) (by decide) (by decide) (Nat.le_of_ble_eq_true rfl) (Nat.le_of_ble_eq_true rfl) (Nat.le_of_ble_eq_true rfl) (fun a2 => ?_)
  refine kg_ws (ws' := [(h0, .inr (3, [.ref a1, .null, .null, .null, .null])), (a1, .inl (q.2.2.1, 48, .inl f1)), (a2, .inl (q.2.2.1, 53, .inl (fun _ => 0)))]) rfl ?_
  refine kg_put (ci := 3) (k := 1) (j := 0) (v := .ref a2) dX3_init_25 zkp_X3_21 rfl (Nat.le_of_ble_eq_true rfl) rfl rfl ?_
  refine kg_ws (ws' := [(h0, .inr (3, [.ref a1, .ref a2, .null, .null, .null])), (a1, .inl (q.2.2.1, 48, .inl f1)), (a2, .inl (q.2.2.1, 53, .inl (fun _ => 0)))]) rfl ?_
  refine kg_aload (i := 0) (j := 0) dX3_init_28 rfl rfl ?_
  refine kg_get (ci := 3) (k := 1) (j := 0) dX3_init_29 zkp_X3_21 rfl rfl ?_
  refine kg_iconst (v := (-1)) dX3_init_32 (by decide) ?_
  refine kg_fill (j := 2) (nn := 53) dX3_init_33 (zm1 48 (by decide +kernel) rfl) (zm1 49 (by decide +kernel) rfl) rfl (Nat.le_of_ble_eq_true rfl) ⟨(Nat.le_of_ble_eq_true rfl), (Nat.le_of_ble_eq_true rfl)⟩ ⟨(Nat.le_of_ble_eq_true rfl), (Nat.le_of_ble_eq_true rfl)⟩ (fun f2 hf2 => ?_)
  refine kg_ws (ws' := [(h0, .inr (3, [.ref a1, .ref a2, .null, .null, .null])), (a1, .inl (q.2.2.1, 48, .inl f1)), (a2, .inl (q.2.2.1, 53, .inl f2))]) rfl ?_
  refine kg_aload (i := 0) (j := 0) dX3_init_36 rfl rfl ?_
  refine kg_bipush (v := 53) dX3_init_37 (by decide) ?_
  refine kg_newI (N := 53) dX3_init_39 (zm1 41 (by decide +kernel) rfl) (by decide) (by decide) (Nat.le_of_ble_eq_true rfl) (Nat.le_of_ble_eq_true rfl) (Nat.le_of_ble_eq_true rfl) (fun a3 => ?_)
  refine kg_ws (ws' := [(h0, .inr (3, [.ref a1, .ref a2, .null, .null, .null])), (a1, .inl (q.2.2.1, 48, .inl f1)), (a2, .inl (q.2.2.1, 53, .inl f2)), (a3, .inl (q.2.2.1, 53, .inl (fun _ => 0)))]) rfl ?_
  refine kg_put (ci := 3) (k := 2) (j := 0) (v := .ref a3) dX3_init_41 zkp_X3_24 rfl (Nat.le_of_ble_eq_true rfl) rfl rfl ?_
  refine kg_ws (ws' := [(h0, .inr (3, [.ref a1, .ref a2, .ref a3, .null, .null])), (a1, .inl (q.2.2.1, 48, .inl f1)), (a2, .inl (q.2.2.1, 53, .inl f2)), (a3, .inl (q.2.2.1, 53, .inl (fun _ => 0)))]) rfl ?_
  refine kg_aload (i := 0) (j := 0) dX3_init_44 rfl rfl ?_
  refine kg_get (ci := 3) (k := 2) (j := 0) dX3_init_45 zkp_X3_24 rfl rfl ?_
  refine kg_iconst (v := (-1)) dX3_init_48 (by decide) ?_
  refine kg_fill (j := 3) (nn := 53) dX3_init_49 (zm1 48 (by decide +kernel) rfl) (zm1 49 (by decide +kernel) rfl) rfl (Nat.le_of_ble_eq_true rfl) ⟨(Nat.le_of_ble_eq_true rfl), (Nat.le_of_ble_eq_true rfl)⟩ ⟨(Nat.le_of_ble_eq_true rfl), (Nat.le_of_ble_eq_true rfl)⟩ (fun f3 hf3 => ?_)
  refine kg_ws (ws' := [(h0, .inr (3, [.ref a1, .ref a2, .ref a3, .null, .null])), (a1, .inl (q.2.2.1, 48, .inl f1)), (a2, .inl (q.2.2.1, 53, .inl f2)), (a3, .inl (q.2.2.1, 53, .inl f3))]) rfl ?_
  refine kg_aload (i := 0) (j := 0) dX3_init_52 rfl rfl ?_
  refine kg_bipush (v := 53) dX3_init_53 (by decide) ?_
  refine kg_newI (N := 53) dX3_init_55 (zm1 41 (by decide +kernel) rfl) (by decide) (by decide) (Nat.le_of_ble_eq_true rfl) (Nat.le_of_ble_eq_true rfl) (Nat.le_of_ble_eq_true rfl) (fun a4 => ?_)
  refine kg_ws (ws' := [(h0, .inr (3, [.ref a1, .ref a2, .ref a3, .null, .null])), (a1, .inl (q.2.2.1, 48, .inl f1)), (a2, .inl (q.2.2.1, 53, .inl f2)), (a3, .inl (q.2.2.1, 53, .inl f3)), (a4, .inl (q.2.2.1, 53, .inl (fun _ => 0)))]) rfl ?_
  refine kg_put (ci := 3) (k := 3) (j := 0) (v := .ref a4) dX3_init_57 zkp_X3_27 rfl (Nat.le_of_ble_eq_true rfl) rfl rfl ?_
  refine kg_ws (ws' := [(h0, .inr (3, [.ref a1, .ref a2, .ref a3, .ref a4, .null])), (a1, .inl (q.2.2.1, 48, .inl f1)), (a2, .inl (q.2.2.1, 53, .inl f2)), (a3, .inl (q.2.2.1, 53, .inl f3)), (a4, .inl (q.2.2.1, 53, .inl (fun _ => 0)))]) rfl ?_
  refine kg_aload (i := 0) (j := 0) dX3_init_60 rfl rfl ?_
  refine kg_bipush (v := 53) dX3_init_61 (by decide) ?_
  refine kg_newI (N := 53) dX3_init_63 (zm1 41 (by decide +kernel) rfl) (by decide) (by decide) (Nat.le_of_ble_eq_true rfl) (Nat.le_of_ble_eq_true rfl) (Nat.le_of_ble_eq_true rfl) (fun a5 => ?_)
  refine kg_ws (ws' := [(h0, .inr (3, [.ref a1, .ref a2, .ref a3, .ref a4, .null])), (a1, .inl (q.2.2.1, 48, .inl f1)), (a2, .inl (q.2.2.1, 53, .inl f2)), (a3, .inl (q.2.2.1, 53, .inl f3)), (a4, .inl (q.2.2.1, 53, .inl (fun _ => 0))), (a5, .inl (q.2.2.1, 53, .inl (fun _ => 0)))]) rfl ?_
  refine kg_put (ci := 3) (k := 4) (j := 0) (v := .ref a5) dX3_init_65 zkp_X3_30 rfl (Nat.le_of_ble_eq_true rfl) rfl rfl ?_
  refine kg_ws (ws' := [(h0, .inr (3, [.ref a1, .ref a2, .ref a3, .ref a4, .ref a5])), (a1, .inl (q.2.2.1, 48, .inl f1)), (a2, .inl (q.2.2.1, 53, .inl f2)), (a3, .inl (q.2.2.1, 53, .inl f3)), (a4, .inl (q.2.2.1, 53, .inl (fun _ => 0))), (a5, .inl (q.2.2.1, 53, .inl (fun _ => 0)))]) rfl ?_
  exact kg_ret (ws' := [(h0, .inr (3, [.ref a1, .ref a2, .ref a3, .ref a4, .ref a5])), (a1, .inl (q.2.2.1, 48, .inl f1)), (a2, .inl (q.2.2.1, 53, .inl f2)), (a3, .inl (q.2.2.1, 53, .inl f3)), (a4, .inl (q.2.2.1, 53, .inl (fun _ => 0))), (a5, .inl (q.2.2.1, 53, .inl (fun _ => 0)))]) dX3_init_68 [0, 1, 2, 3, 4, 5] rfl rfl rfl ⟨a1, a2, a3, a4, a5, f1, f2, f3, rfl, hf1, hf2, hf3⟩ ⟨(Nat.le_of_ble_eq_true rfl), (Nat.le_of_ble_eq_true rfl)⟩
/-- the class's memory at its start -/
def zX0 (M : Mem) : Prop := (∀ k, k < 48 → M 15 k = -1) ∧ (∀ k, k < 48 → M 10 k = 0) ∧ (∀ k, k < 53 → M 11 k = -1) ∧ (∀ k, k < 53 → M 12 k = -1) ∧ (∀ k, M 13 k = 0) ∧ (∀ k, M 14 k = 0) ∧ (∀ k, k < 4 → M 5 k = 1) ∧ (∀ k, M 6 k = 0) ∧ (∀ k, M 7 k = 0) ∧ (∀ k, M 8 k = 0) ∧ (∀ k, M 9 k = 0) ∧ M 3 1 = 1 ∧ M 0 5 = 0 ∧ (∀ k, M 16 k = 0) ∧ (∀ k, M 17 k = 0) ∧ (∀ k, M 18 k = 0) ∧ (∀ k, M 19 k = 0)
def Pst_X4_init (q : KQ) (h0 : Nat) (ws : va_W) : Prop := ∃ (a : Nat → Nat) (M : Mem), ws = zws (zgX (q.1, q.2.1, q.2.2, a)) M ∧ a 0 = h0 ∧ zX0 M
theorem zkn_X4_9 : zkn RX4 9 0 [.null, .null, .null, .null] := ⟨RX0, TX0, tyX0, rfl, zu_X0, tyX0_ok, (zm1 21 (by decide +kernel) rfl), (zm1 22 (by decide +kernel) rfl), (zm1 2 (by decide +kernel) rfl), fun j hj => by rcases (show j = 0 ∨ j = 1 ∨ j = 2 ∨ j = 3 by have : j < 4 := hj; omega) with rfl | rfl | rfl | rfl <;> rfl⟩
theorem zkp_X4_12 : zkp RX4 12 4 0 (.object "Zfsmill$Cells") := ⟨RX4, TX4, 6, tyX4, rfl, zu_X4, by decide, (zm1 102 (by decide +kernel) rfl), tyX4_ok, nmX4, Or.inr ⟨rfl, rfl⟩, by decide +kernel⟩
theorem zkn_X4_16 : zkn RX4 16 3 [.null, .null, .null, .null, .null] := ⟨RX3, TX3, tyX3, rfl, zu_X3, tyX3_ok, (zm1 42 (by decide +kernel) rfl), (zm1 43 (by decide +kernel) rfl), (zm1 3 (by decide +kernel) rfl), fun j hj => by rcases (show j = 0 ∨ j = 1 ∨ j = 2 ∨ j = 3 ∨ j = 4 by have : j < 5 := hj; omega) with rfl | rfl | rfl | rfl | rfl <;> rfl⟩
theorem zkp_X4_19 : zkp RX4 19 4 1 (.object "Zfsmill$Tree") := ⟨RX4, TX4, 6, tyX4, rfl, zu_X4, by decide, (zm1 103 (by decide +kernel) rfl), tyX4_ok, nmX4, Or.inr ⟨rfl, rfl⟩, by decide +kernel⟩
theorem zkn_X4_23 : zkn RX4 23 2 [.null, .int 0] := ⟨RX2, TX2, tyX2, rfl, zu_X2, tyX2_ok, (zm1 67 (by decide +kernel) rfl), (zm1 68 (by decide +kernel) rfl), (zm1 5 (by decide +kernel) rfl), fun j hj => by rcases (show j = 0 ∨ j = 1 by have : j < 2 := hj; omega) with rfl | rfl <;> rfl⟩
theorem zkp_X4_26 : zkp RX4 26 4 2 (.object "Zfsmill$OpenGroup") := ⟨RX4, TX4, 6, tyX4, rfl, zu_X4, by decide, (zm1 104 (by decide +kernel) rfl), tyX4_ok, nmX4, Or.inr ⟨rfl, rfl⟩, by decide +kernel⟩
theorem zkn_X4_30 : zkn RX4 30 1 [.null, .null, .null, .null] := ⟨RX1, TX1, tyX1, rfl, zu_X1, tyX1_ok, (zm1 82 (by decide +kernel) rfl), (zm1 83 (by decide +kernel) rfl), (zm1 6 (by decide +kernel) rfl), fun j hj => by rcases (show j = 0 ∨ j = 1 ∨ j = 2 ∨ j = 3 by have : j < 4 := hj; omega) with rfl | rfl | rfl | rfl <;> rfl⟩
theorem zkp_X4_33 : zkp RX4 33 4 3 (.object "Zfsmill$Choice") := ⟨RX4, TX4, 6, tyX4, rfl, zu_X4, by decide, (zm1 105 (by decide +kernel) rfl), tyX4_ok, nmX4, Or.inr ⟨rfl, rfl⟩, by decide +kernel⟩
theorem zkp_X4_37 : zkp RX4 37 4 4 (.array .int) := ⟨RX4, TX4, 6, tyX4, rfl, zu_X4, by decide, (zm1 106 (by decide +kernel) rfl), tyX4_ok, nmX4, Or.inr ⟨rfl, rfl⟩, by decide +kernel⟩
theorem zkp_X4_47 : zkp RX4 47 4 5 (.int) := ⟨RX4, TX4, 6, tyX4, rfl, zu_X4, by decide, (zm1 107 (by decide +kernel) rfl), tyX4_ok, nmX4, Or.inl rfl, by decide +kernel⟩
set_option maxRecDepth 100000 in
set_option maxHeartbeats 4000000 in
theorem c_X4_init (q : KQ) : Kc q mX4_init 19 811 (.inr (4, [.null, .null, .null, .null, .null, .int 0])) (Pst_X4_init q) := by
  refine Kc.of (by decide) rfl rfl (by decide) (fun h0 => ?_)
  refine kg_aload (i := 0) (j := 0) dX4_init_0 rfl rfl ?_
  refine kg_obj dX4_init_1 (zm1 18 (by decide +kernel) rfl) (zm1 19 (by decide +kernel) rfl) (zm1 20 (by decide +kernel) rfl) ⟨(Nat.le_of_ble_eq_true rfl), (Nat.le_of_ble_eq_true rfl)⟩ ?_
  refine kg_aload (i := 0) (j := 0) dX4_init_4 rfl rfl ?_
  refine kg_new dX4_init_5 zkn_X4_9 (Nat.le_of_ble_eq_true rfl) (Nat.le_of_ble_eq_true rfl) (fun b0 => ?_)
  refine kg_ws (ws' := [(h0, .inr (4, [.null, .null, .null, .null, .null, .int 0])), (b0, .inr (0, [.null, .null, .null, .null]))]) rfl ?_
  refine kg_dup dX4_init_8 ?_
  refine kg_ws (ws' := [(h0, .inr (4, [.null, .null, .null, .null, .null, .int 0]))] ++ [(b0, .inr (0, [.null, .null, .null, .null]))]) rfl ?_
  refine kg_init dX4_init_9 (c_X0_init q) (zm1 23 (by decide +kernel) rfl) zi_X0_init (zm1 24 (by decide +kernel) rfl) rfl ⟨(Nat.le_of_ble_eq_true rfl), (Nat.le_of_ble_eq_true rfl)⟩ (Nat.le_of_ble_eq_true rfl) ⟨(Nat.le_of_ble_eq_true rfl), (Nat.le_of_ble_eq_true rfl)⟩ (fun w1 hw => ?_)
  obtain ⟨g0_0, g0_1, g0_2, g0_3, rfl⟩ := hw
  refine kg_ws (ws' := [(h0, .inr (4, [.null, .null, .null, .null, .null, .int 0])), (b0, .inr (0, [.ref g0_0, .ref g0_1, .ref g0_2, .ref g0_3])), (g0_0, .inl (q.2.2.2.1, 120, .inl (fun _ => 0))), (g0_1, .inl (q.2.2.2.1, 240, .inl (fun _ => 0))), (g0_2, .inl (q.2.2.2.1, 6, .inl (fun _ => 0))), (g0_3, .inl (q.2.2.1, 6, .inl (fun _ => 0)))]) rfl ?_
  refine kg_put (ci := 4) (k := 0) (j := 0) (v := .ref b0) dX4_init_12 zkp_X4_12 rfl (Nat.le_of_ble_eq_true rfl) rfl rfl ?_
  refine kg_ws (ws' := [(h0, .inr (4, [.ref b0, .null, .null, .null, .null, .int 0])), (b0, .inr (0, [.ref g0_0, .ref g0_1, .ref g0_2, .ref g0_3])), (g0_0, .inl (q.2.2.2.1, 120, .inl (fun _ => 0))), (g0_1, .inl (q.2.2.2.1, 240, .inl (fun _ => 0))), (g0_2, .inl (q.2.2.2.1, 6, .inl (fun _ => 0))), (g0_3, .inl (q.2.2.1, 6, .inl (fun _ => 0)))]) rfl ?_
  refine kg_aload (i := 0) (j := 0) dX4_init_15 rfl rfl ?_
  refine kg_new dX4_init_16 zkn_X4_16 (Nat.le_of_ble_eq_true rfl) (Nat.le_of_ble_eq_true rfl) (fun b1 => ?_)
  refine kg_ws (ws' := [(h0, .inr (4, [.ref b0, .null, .null, .null, .null, .int 0])), (b0, .inr (0, [.ref g0_0, .ref g0_1, .ref g0_2, .ref g0_3])), (g0_0, .inl (q.2.2.2.1, 120, .inl (fun _ => 0))), (g0_1, .inl (q.2.2.2.1, 240, .inl (fun _ => 0))), (g0_2, .inl (q.2.2.2.1, 6, .inl (fun _ => 0))), (g0_3, .inl (q.2.2.1, 6, .inl (fun _ => 0))), (b1, .inr (3, [.null, .null, .null, .null, .null]))]) rfl ?_
  refine kg_dup dX4_init_19 ?_
  refine kg_ws (ws' := [(h0, .inr (4, [.ref b0, .null, .null, .null, .null, .int 0])), (b0, .inr (0, [.ref g0_0, .ref g0_1, .ref g0_2, .ref g0_3])), (g0_0, .inl (q.2.2.2.1, 120, .inl (fun _ => 0))), (g0_1, .inl (q.2.2.2.1, 240, .inl (fun _ => 0))), (g0_2, .inl (q.2.2.2.1, 6, .inl (fun _ => 0))), (g0_3, .inl (q.2.2.1, 6, .inl (fun _ => 0)))] ++ [(b1, .inr (3, [.null, .null, .null, .null, .null]))]) rfl ?_
  refine kg_init dX4_init_20 (c_X3_init q) (zm1 44 (by decide +kernel) rfl) zi_X3_init (zm1 45 (by decide +kernel) rfl) rfl ⟨(Nat.le_of_ble_eq_true rfl), (Nat.le_of_ble_eq_true rfl)⟩ (Nat.le_of_ble_eq_true rfl) ⟨(Nat.le_of_ble_eq_true rfl), (Nat.le_of_ble_eq_true rfl)⟩ (fun w1 hw => ?_)
  obtain ⟨g1_0, g1_1, g1_2, g1_3, g1_4, u1_0, u1_1, u1_2, rfl, hu1_0, hu1_1, hu1_2⟩ := hw
  refine kg_ws (ws' := [(h0, .inr (4, [.ref b0, .null, .null, .null, .null, .int 0])), (b0, .inr (0, [.ref g0_0, .ref g0_1, .ref g0_2, .ref g0_3])), (g0_0, .inl (q.2.2.2.1, 120, .inl (fun _ => 0))), (g0_1, .inl (q.2.2.2.1, 240, .inl (fun _ => 0))), (g0_2, .inl (q.2.2.2.1, 6, .inl (fun _ => 0))), (g0_3, .inl (q.2.2.1, 6, .inl (fun _ => 0))), (b1, .inr (3, [.ref g1_0, .ref g1_1, .ref g1_2, .ref g1_3, .ref g1_4])), (g1_0, .inl (q.2.2.1, 48, .inl u1_0)), (g1_1, .inl (q.2.2.1, 53, .inl u1_1)), (g1_2, .inl (q.2.2.1, 53, .inl u1_2)), (g1_3, .inl (q.2.2.1, 53, .inl (fun _ => 0))), (g1_4, .inl (q.2.2.1, 53, .inl (fun _ => 0)))]) rfl ?_
  refine kg_put (ci := 4) (k := 1) (j := 0) (v := .ref b1) dX4_init_23 zkp_X4_19 rfl (Nat.le_of_ble_eq_true rfl) rfl rfl ?_
  refine kg_ws (ws' := [(h0, .inr (4, [.ref b0, .ref b1, .null, .null, .null, .int 0])), (b0, .inr (0, [.ref g0_0, .ref g0_1, .ref g0_2, .ref g0_3])), (g0_0, .inl (q.2.2.2.1, 120, .inl (fun _ => 0))), (g0_1, .inl (q.2.2.2.1, 240, .inl (fun _ => 0))), (g0_2, .inl (q.2.2.2.1, 6, .inl (fun _ => 0))), (g0_3, .inl (q.2.2.1, 6, .inl (fun _ => 0))), (b1, .inr (3, [.ref g1_0, .ref g1_1, .ref g1_2, .ref g1_3, .ref g1_4])), (g1_0, .inl (q.2.2.1, 48, .inl u1_0)), (g1_1, .inl (q.2.2.1, 53, .inl u1_1)), (g1_2, .inl (q.2.2.1, 53, .inl u1_2)), (g1_3, .inl (q.2.2.1, 53, .inl (fun _ => 0))), (g1_4, .inl (q.2.2.1, 53, .inl (fun _ => 0)))]) rfl ?_
  refine kg_aload (i := 0) (j := 0) dX4_init_26 rfl rfl ?_
  refine kg_new dX4_init_27 zkn_X4_23 (Nat.le_of_ble_eq_true rfl) (Nat.le_of_ble_eq_true rfl) (fun b2 => ?_)
  refine kg_ws (ws' := [(h0, .inr (4, [.ref b0, .ref b1, .null, .null, .null, .int 0])), (b0, .inr (0, [.ref g0_0, .ref g0_1, .ref g0_2, .ref g0_3])), (g0_0, .inl (q.2.2.2.1, 120, .inl (fun _ => 0))), (g0_1, .inl (q.2.2.2.1, 240, .inl (fun _ => 0))), (g0_2, .inl (q.2.2.2.1, 6, .inl (fun _ => 0))), (g0_3, .inl (q.2.2.1, 6, .inl (fun _ => 0))), (b1, .inr (3, [.ref g1_0, .ref g1_1, .ref g1_2, .ref g1_3, .ref g1_4])), (g1_0, .inl (q.2.2.1, 48, .inl u1_0)), (g1_1, .inl (q.2.2.1, 53, .inl u1_1)), (g1_2, .inl (q.2.2.1, 53, .inl u1_2)), (g1_3, .inl (q.2.2.1, 53, .inl (fun _ => 0))), (g1_4, .inl (q.2.2.1, 53, .inl (fun _ => 0))), (b2, .inr (2, [.null, .int 0]))]) rfl ?_
  refine kg_dup dX4_init_30 ?_
  refine kg_ws (ws' := [(h0, .inr (4, [.ref b0, .ref b1, .null, .null, .null, .int 0])), (b0, .inr (0, [.ref g0_0, .ref g0_1, .ref g0_2, .ref g0_3])), (g0_0, .inl (q.2.2.2.1, 120, .inl (fun _ => 0))), (g0_1, .inl (q.2.2.2.1, 240, .inl (fun _ => 0))), (g0_2, .inl (q.2.2.2.1, 6, .inl (fun _ => 0))), (g0_3, .inl (q.2.2.1, 6, .inl (fun _ => 0))), (b1, .inr (3, [.ref g1_0, .ref g1_1, .ref g1_2, .ref g1_3, .ref g1_4])), (g1_0, .inl (q.2.2.1, 48, .inl u1_0)), (g1_1, .inl (q.2.2.1, 53, .inl u1_1)), (g1_2, .inl (q.2.2.1, 53, .inl u1_2)), (g1_3, .inl (q.2.2.1, 53, .inl (fun _ => 0))), (g1_4, .inl (q.2.2.1, 53, .inl (fun _ => 0)))] ++ [(b2, .inr (2, [.null, .int 0]))]) rfl ?_
  refine kg_init dX4_init_31 (c_X2_init q) (zm1 69 (by decide +kernel) rfl) zi_X2_init (zm1 70 (by decide +kernel) rfl) rfl ⟨(Nat.le_of_ble_eq_true rfl), (Nat.le_of_ble_eq_true rfl)⟩ (Nat.le_of_ble_eq_true rfl) ⟨(Nat.le_of_ble_eq_true rfl), (Nat.le_of_ble_eq_true rfl)⟩ (fun w1 hw => ?_)
  obtain ⟨g2_0, u2_0, rfl, hu2_0⟩ := hw
  refine kg_ws (ws' := [(h0, .inr (4, [.ref b0, .ref b1, .null, .null, .null, .int 0])), (b0, .inr (0, [.ref g0_0, .ref g0_1, .ref g0_2, .ref g0_3])), (g0_0, .inl (q.2.2.2.1, 120, .inl (fun _ => 0))), (g0_1, .inl (q.2.2.2.1, 240, .inl (fun _ => 0))), (g0_2, .inl (q.2.2.2.1, 6, .inl (fun _ => 0))), (g0_3, .inl (q.2.2.1, 6, .inl (fun _ => 0))), (b1, .inr (3, [.ref g1_0, .ref g1_1, .ref g1_2, .ref g1_3, .ref g1_4])), (g1_0, .inl (q.2.2.1, 48, .inl u1_0)), (g1_1, .inl (q.2.2.1, 53, .inl u1_1)), (g1_2, .inl (q.2.2.1, 53, .inl u1_2)), (g1_3, .inl (q.2.2.1, 53, .inl (fun _ => 0))), (g1_4, .inl (q.2.2.1, 53, .inl (fun _ => 0))), (b2, .inr (2, [.ref g2_0, .int 1])), (g2_0, .inl (q.2.2.1, 48, .inl u2_0))]) rfl ?_
  refine kg_put (ci := 4) (k := 2) (j := 0) (v := .ref b2) dX4_init_34 zkp_X4_26 rfl (Nat.le_of_ble_eq_true rfl) rfl rfl ?_
  refine kg_ws (ws' := [(h0, .inr (4, [.ref b0, .ref b1, .ref b2, .null, .null, .int 0])), (b0, .inr (0, [.ref g0_0, .ref g0_1, .ref g0_2, .ref g0_3])), (g0_0, .inl (q.2.2.2.1, 120, .inl (fun _ => 0))), (g0_1, .inl (q.2.2.2.1, 240, .inl (fun _ => 0))), (g0_2, .inl (q.2.2.2.1, 6, .inl (fun _ => 0))), (g0_3, .inl (q.2.2.1, 6, .inl (fun _ => 0))), (b1, .inr (3, [.ref g1_0, .ref g1_1, .ref g1_2, .ref g1_3, .ref g1_4])), (g1_0, .inl (q.2.2.1, 48, .inl u1_0)), (g1_1, .inl (q.2.2.1, 53, .inl u1_1)), (g1_2, .inl (q.2.2.1, 53, .inl u1_2)), (g1_3, .inl (q.2.2.1, 53, .inl (fun _ => 0))), (g1_4, .inl (q.2.2.1, 53, .inl (fun _ => 0))), (b2, .inr (2, [.ref g2_0, .int 1])), (g2_0, .inl (q.2.2.1, 48, .inl u2_0))]) rfl ?_
  refine kg_aload (i := 0) (j := 0) dX4_init_37 rfl rfl ?_
  refine kg_new dX4_init_38 zkn_X4_30 (Nat.le_of_ble_eq_true rfl) (Nat.le_of_ble_eq_true rfl) (fun b3 => ?_)
  refine kg_ws (ws' := [(h0, .inr (4, [.ref b0, .ref b1, .ref b2, .null, .null, .int 0])), (b0, .inr (0, [.ref g0_0, .ref g0_1, .ref g0_2, .ref g0_3])), (g0_0, .inl (q.2.2.2.1, 120, .inl (fun _ => 0))), (g0_1, .inl (q.2.2.2.1, 240, .inl (fun _ => 0))), (g0_2, .inl (q.2.2.2.1, 6, .inl (fun _ => 0))), (g0_3, .inl (q.2.2.1, 6, .inl (fun _ => 0))), (b1, .inr (3, [.ref g1_0, .ref g1_1, .ref g1_2, .ref g1_3, .ref g1_4])), (g1_0, .inl (q.2.2.1, 48, .inl u1_0)), (g1_1, .inl (q.2.2.1, 53, .inl u1_1)), (g1_2, .inl (q.2.2.1, 53, .inl u1_2)), (g1_3, .inl (q.2.2.1, 53, .inl (fun _ => 0))), (g1_4, .inl (q.2.2.1, 53, .inl (fun _ => 0))), (b2, .inr (2, [.ref g2_0, .int 1])), (g2_0, .inl (q.2.2.1, 48, .inl u2_0)), (b3, .inr (1, [.null, .null, .null, .null]))]) rfl ?_
  refine kg_dup dX4_init_41 ?_
  refine kg_ws (ws' := [(h0, .inr (4, [.ref b0, .ref b1, .ref b2, .null, .null, .int 0])), (b0, .inr (0, [.ref g0_0, .ref g0_1, .ref g0_2, .ref g0_3])), (g0_0, .inl (q.2.2.2.1, 120, .inl (fun _ => 0))), (g0_1, .inl (q.2.2.2.1, 240, .inl (fun _ => 0))), (g0_2, .inl (q.2.2.2.1, 6, .inl (fun _ => 0))), (g0_3, .inl (q.2.2.1, 6, .inl (fun _ => 0))), (b1, .inr (3, [.ref g1_0, .ref g1_1, .ref g1_2, .ref g1_3, .ref g1_4])), (g1_0, .inl (q.2.2.1, 48, .inl u1_0)), (g1_1, .inl (q.2.2.1, 53, .inl u1_1)), (g1_2, .inl (q.2.2.1, 53, .inl u1_2)), (g1_3, .inl (q.2.2.1, 53, .inl (fun _ => 0))), (g1_4, .inl (q.2.2.1, 53, .inl (fun _ => 0))), (b2, .inr (2, [.ref g2_0, .int 1])), (g2_0, .inl (q.2.2.1, 48, .inl u2_0))] ++ [(b3, .inr (1, [.null, .null, .null, .null]))]) rfl ?_
  refine kg_init dX4_init_42 (c_X1_init q) (zm1 84 (by decide +kernel) rfl) zi_X1_init (zm1 85 (by decide +kernel) rfl) rfl ⟨(Nat.le_of_ble_eq_true rfl), (Nat.le_of_ble_eq_true rfl)⟩ (Nat.le_of_ble_eq_true rfl) ⟨(Nat.le_of_ble_eq_true rfl), (Nat.le_of_ble_eq_true rfl)⟩ (fun w1 hw => ?_)
  obtain ⟨g3_0, g3_1, g3_2, g3_3, rfl⟩ := hw
  refine kg_ws (ws' := [(h0, .inr (4, [.ref b0, .ref b1, .ref b2, .null, .null, .int 0])), (b0, .inr (0, [.ref g0_0, .ref g0_1, .ref g0_2, .ref g0_3])), (g0_0, .inl (q.2.2.2.1, 120, .inl (fun _ => 0))), (g0_1, .inl (q.2.2.2.1, 240, .inl (fun _ => 0))), (g0_2, .inl (q.2.2.2.1, 6, .inl (fun _ => 0))), (g0_3, .inl (q.2.2.1, 6, .inl (fun _ => 0))), (b1, .inr (3, [.ref g1_0, .ref g1_1, .ref g1_2, .ref g1_3, .ref g1_4])), (g1_0, .inl (q.2.2.1, 48, .inl u1_0)), (g1_1, .inl (q.2.2.1, 53, .inl u1_1)), (g1_2, .inl (q.2.2.1, 53, .inl u1_2)), (g1_3, .inl (q.2.2.1, 53, .inl (fun _ => 0))), (g1_4, .inl (q.2.2.1, 53, .inl (fun _ => 0))), (b2, .inr (2, [.ref g2_0, .int 1])), (g2_0, .inl (q.2.2.1, 48, .inl u2_0)), (b3, .inr (1, [.ref g3_0, .ref g3_1, .ref g3_2, .ref g3_3])), (g3_0, .inl (q.2.2.1, 3, .inl (fun _ => 0))), (g3_1, .inl (q.2.2.1, 3, .inl (fun _ => 0))), (g3_2, .inl (q.2.2.1, 53, .inl (fun _ => 0))), (g3_3, .inl (q.2.2.1, 53, .inl (fun _ => 0)))]) rfl ?_
  refine kg_put (ci := 4) (k := 3) (j := 0) (v := .ref b3) dX4_init_45 zkp_X4_33 rfl (Nat.le_of_ble_eq_true rfl) rfl rfl ?_
  refine kg_ws (ws' := [(h0, .inr (4, [.ref b0, .ref b1, .ref b2, .ref b3, .null, .int 0])), (b0, .inr (0, [.ref g0_0, .ref g0_1, .ref g0_2, .ref g0_3])), (g0_0, .inl (q.2.2.2.1, 120, .inl (fun _ => 0))), (g0_1, .inl (q.2.2.2.1, 240, .inl (fun _ => 0))), (g0_2, .inl (q.2.2.2.1, 6, .inl (fun _ => 0))), (g0_3, .inl (q.2.2.1, 6, .inl (fun _ => 0))), (b1, .inr (3, [.ref g1_0, .ref g1_1, .ref g1_2, .ref g1_3, .ref g1_4])), (g1_0, .inl (q.2.2.1, 48, .inl u1_0)), (g1_1, .inl (q.2.2.1, 53, .inl u1_1)), (g1_2, .inl (q.2.2.1, 53, .inl u1_2)), (g1_3, .inl (q.2.2.1, 53, .inl (fun _ => 0))), (g1_4, .inl (q.2.2.1, 53, .inl (fun _ => 0))), (b2, .inr (2, [.ref g2_0, .int 1])), (g2_0, .inl (q.2.2.1, 48, .inl u2_0)), (b3, .inr (1, [.ref g3_0, .ref g3_1, .ref g3_2, .ref g3_3])), (g3_0, .inl (q.2.2.1, 3, .inl (fun _ => 0))), (g3_1, .inl (q.2.2.1, 3, .inl (fun _ => 0))), (g3_2, .inl (q.2.2.1, 53, .inl (fun _ => 0))), (g3_3, .inl (q.2.2.1, 53, .inl (fun _ => 0)))]) rfl ?_
  refine kg_aload (i := 0) (j := 0) dX4_init_48 rfl rfl ?_
  refine kg_iconst (v := 4) dX4_init_49 (by decide) ?_
  refine kg_newI (N := 4) dX4_init_50 (zm1 41 (by decide +kernel) rfl) (by decide) (by decide) (Nat.le_of_ble_eq_true rfl) (Nat.le_of_ble_eq_true rfl) (Nat.le_of_ble_eq_true rfl) (fun a19 => ?_)
  refine kg_ws (ws' := [(h0, .inr (4, [.ref b0, .ref b1, .ref b2, .ref b3, .null, .int 0])), (b0, .inr (0, [.ref g0_0, .ref g0_1, .ref g0_2, .ref g0_3])), (g0_0, .inl (q.2.2.2.1, 120, .inl (fun _ => 0))), (g0_1, .inl (q.2.2.2.1, 240, .inl (fun _ => 0))), (g0_2, .inl (q.2.2.2.1, 6, .inl (fun _ => 0))), (g0_3, .inl (q.2.2.1, 6, .inl (fun _ => 0))), (b1, .inr (3, [.ref g1_0, .ref g1_1, .ref g1_2, .ref g1_3, .ref g1_4])), (g1_0, .inl (q.2.2.1, 48, .inl u1_0)), (g1_1, .inl (q.2.2.1, 53, .inl u1_1)), (g1_2, .inl (q.2.2.1, 53, .inl u1_2)), (g1_3, .inl (q.2.2.1, 53, .inl (fun _ => 0))), (g1_4, .inl (q.2.2.1, 53, .inl (fun _ => 0))), (b2, .inr (2, [.ref g2_0, .int 1])), (g2_0, .inl (q.2.2.1, 48, .inl u2_0)), (b3, .inr (1, [.ref g3_0, .ref g3_1, .ref g3_2, .ref g3_3])), (g3_0, .inl (q.2.2.1, 3, .inl (fun _ => 0))), (g3_1, .inl (q.2.2.1, 3, .inl (fun _ => 0))), (g3_2, .inl (q.2.2.1, 53, .inl (fun _ => 0))), (g3_3, .inl (q.2.2.1, 53, .inl (fun _ => 0))), (a19, .inl (q.2.2.1, 4, .inl (fun _ => 0)))]) rfl ?_
  refine kg_put (ci := 4) (k := 4) (j := 0) (v := .ref a19) dX4_init_52 zkp_X4_37 rfl (Nat.le_of_ble_eq_true rfl) rfl rfl ?_
  refine kg_ws (ws' := [(h0, .inr (4, [.ref b0, .ref b1, .ref b2, .ref b3, .ref a19, .int 0])), (b0, .inr (0, [.ref g0_0, .ref g0_1, .ref g0_2, .ref g0_3])), (g0_0, .inl (q.2.2.2.1, 120, .inl (fun _ => 0))), (g0_1, .inl (q.2.2.2.1, 240, .inl (fun _ => 0))), (g0_2, .inl (q.2.2.2.1, 6, .inl (fun _ => 0))), (g0_3, .inl (q.2.2.1, 6, .inl (fun _ => 0))), (b1, .inr (3, [.ref g1_0, .ref g1_1, .ref g1_2, .ref g1_3, .ref g1_4])), (g1_0, .inl (q.2.2.1, 48, .inl u1_0)), (g1_1, .inl (q.2.2.1, 53, .inl u1_1)), (g1_2, .inl (q.2.2.1, 53, .inl u1_2)), (g1_3, .inl (q.2.2.1, 53, .inl (fun _ => 0))), (g1_4, .inl (q.2.2.1, 53, .inl (fun _ => 0))), (b2, .inr (2, [.ref g2_0, .int 1])), (g2_0, .inl (q.2.2.1, 48, .inl u2_0)), (b3, .inr (1, [.ref g3_0, .ref g3_1, .ref g3_2, .ref g3_3])), (g3_0, .inl (q.2.2.1, 3, .inl (fun _ => 0))), (g3_1, .inl (q.2.2.1, 3, .inl (fun _ => 0))), (g3_2, .inl (q.2.2.1, 53, .inl (fun _ => 0))), (g3_3, .inl (q.2.2.1, 53, .inl (fun _ => 0))), (a19, .inl (q.2.2.1, 4, .inl (fun _ => 0)))]) rfl ?_
  refine kg_aload (i := 0) (j := 0) dX4_init_55 rfl rfl ?_
  refine kg_get (ci := 4) (k := 4) (j := 0) dX4_init_56 zkp_X4_37 rfl rfl ?_
  refine kg_iconst (v := 1) dX4_init_59 (by decide) ?_
  refine kg_fill (j := 19) (nn := 4) dX4_init_60 (zm1 101 (by decide +kernel) rfl) (zm1 49 (by decide +kernel) rfl) rfl (Nat.le_of_ble_eq_true rfl) ⟨(Nat.le_of_ble_eq_true rfl), (Nat.le_of_ble_eq_true rfl)⟩ ⟨(Nat.le_of_ble_eq_true rfl), (Nat.le_of_ble_eq_true rfl)⟩ (fun f19 hf19 => ?_)
  refine kg_ws (ws' := [(h0, .inr (4, [.ref b0, .ref b1, .ref b2, .ref b3, .ref a19, .int 0])), (b0, .inr (0, [.ref g0_0, .ref g0_1, .ref g0_2, .ref g0_3])), (g0_0, .inl (q.2.2.2.1, 120, .inl (fun _ => 0))), (g0_1, .inl (q.2.2.2.1, 240, .inl (fun _ => 0))), (g0_2, .inl (q.2.2.2.1, 6, .inl (fun _ => 0))), (g0_3, .inl (q.2.2.1, 6, .inl (fun _ => 0))), (b1, .inr (3, [.ref g1_0, .ref g1_1, .ref g1_2, .ref g1_3, .ref g1_4])), (g1_0, .inl (q.2.2.1, 48, .inl u1_0)), (g1_1, .inl (q.2.2.1, 53, .inl u1_1)), (g1_2, .inl (q.2.2.1, 53, .inl u1_2)), (g1_3, .inl (q.2.2.1, 53, .inl (fun _ => 0))), (g1_4, .inl (q.2.2.1, 53, .inl (fun _ => 0))), (b2, .inr (2, [.ref g2_0, .int 1])), (g2_0, .inl (q.2.2.1, 48, .inl u2_0)), (b3, .inr (1, [.ref g3_0, .ref g3_1, .ref g3_2, .ref g3_3])), (g3_0, .inl (q.2.2.1, 3, .inl (fun _ => 0))), (g3_1, .inl (q.2.2.1, 3, .inl (fun _ => 0))), (g3_2, .inl (q.2.2.1, 53, .inl (fun _ => 0))), (g3_3, .inl (q.2.2.1, 53, .inl (fun _ => 0))), (a19, .inl (q.2.2.1, 4, .inl f19))]) rfl ?_
  refine kg_aload (i := 0) (j := 0) dX4_init_63 rfl rfl ?_
  refine kg_iconst (v := 0) dX4_init_64 (by decide) ?_
  refine kg_put (ci := 4) (k := 5) (j := 0) (v := .int 0) dX4_init_65 zkp_X4_47 rfl (Nat.le_of_ble_eq_true rfl) rfl rfl ?_
  refine kg_ws (ws' := [(h0, .inr (4, [.ref b0, .ref b1, .ref b2, .ref b3, .ref a19, .int 0])), (b0, .inr (0, [.ref g0_0, .ref g0_1, .ref g0_2, .ref g0_3])), (g0_0, .inl (q.2.2.2.1, 120, .inl (fun _ => 0))), (g0_1, .inl (q.2.2.2.1, 240, .inl (fun _ => 0))), (g0_2, .inl (q.2.2.2.1, 6, .inl (fun _ => 0))), (g0_3, .inl (q.2.2.1, 6, .inl (fun _ => 0))), (b1, .inr (3, [.ref g1_0, .ref g1_1, .ref g1_2, .ref g1_3, .ref g1_4])), (g1_0, .inl (q.2.2.1, 48, .inl u1_0)), (g1_1, .inl (q.2.2.1, 53, .inl u1_1)), (g1_2, .inl (q.2.2.1, 53, .inl u1_2)), (g1_3, .inl (q.2.2.1, 53, .inl (fun _ => 0))), (g1_4, .inl (q.2.2.1, 53, .inl (fun _ => 0))), (b2, .inr (2, [.ref g2_0, .int 1])), (g2_0, .inl (q.2.2.1, 48, .inl u2_0)), (b3, .inr (1, [.ref g3_0, .ref g3_1, .ref g3_2, .ref g3_3])), (g3_0, .inl (q.2.2.1, 3, .inl (fun _ => 0))), (g3_1, .inl (q.2.2.1, 3, .inl (fun _ => 0))), (g3_2, .inl (q.2.2.1, 53, .inl (fun _ => 0))), (g3_3, .inl (q.2.2.1, 53, .inl (fun _ => 0))), (a19, .inl (q.2.2.1, 4, .inl f19))]) rfl ?_
  refine kg_ret (ws' := [(h0, .inr (4, [.ref b0, .ref b1, .ref b2, .ref b3, .ref a19, .int 0])), (b0, .inr (0, [.ref g0_0, .ref g0_1, .ref g0_2, .ref g0_3])), (b1, .inr (3, [.ref g1_0, .ref g1_1, .ref g1_2, .ref g1_3, .ref g1_4])), (b2, .inr (2, [.ref g2_0, .int 1])), (b3, .inr (1, [.ref g3_0, .ref g3_1, .ref g3_2, .ref g3_3])), (a19, .inl (q.2.2.1, 4, .inl f19)), (g0_0, .inl (q.2.2.2.1, 120, .inl (fun _ => 0))), (g0_1, .inl (q.2.2.2.1, 240, .inl (fun _ => 0))), (g0_2, .inl (q.2.2.2.1, 6, .inl (fun _ => 0))), (g0_3, .inl (q.2.2.1, 6, .inl (fun _ => 0))), (g1_0, .inl (q.2.2.1, 48, .inl u1_0)), (g1_1, .inl (q.2.2.1, 53, .inl u1_1)), (g1_2, .inl (q.2.2.1, 53, .inl u1_2)), (g1_3, .inl (q.2.2.1, 53, .inl (fun _ => 0))), (g1_4, .inl (q.2.2.1, 53, .inl (fun _ => 0))), (g2_0, .inl (q.2.2.1, 48, .inl u2_0)), (g3_0, .inl (q.2.2.1, 3, .inl (fun _ => 0))), (g3_1, .inl (q.2.2.1, 3, .inl (fun _ => 0))), (g3_2, .inl (q.2.2.1, 53, .inl (fun _ => 0))), (g3_3, .inl (q.2.2.1, 53, .inl (fun _ => 0)))]) dX4_init_68 [0, 1, 6, 12, 14, 19, 2, 3, 4, 5, 7, 8, 9, 10, 11, 13, 15, 16, 17, 18] rfl rfl rfl ⟨(fun k => match k with | 0 => h0 | 1 => b0 | 2 => b1 | 3 => b2 | 4 => b3 | 5 => a19 | 6 => g0_0 | 7 => g0_1 | 8 => g0_2 | 9 => g0_3 | 10 => g1_0 | 11 => g1_1 | 12 => g1_2 | 13 => g1_3 | 14 => g1_4 | 15 => g2_0 | 16 => g3_0 | 17 => g3_1 | 18 => g3_2 | 19 => g3_3 | _ => 0), (fun k => match k with | 0 => (fun j => if j = 5 then 0 else 0) | 1 => (fun j => 0) | 2 => (fun j => 0) | 3 => (fun j => if j = 1 then 1 else 0) | 4 => (fun j => 0) | 5 => f19 | 6 => (fun _ => 0) | 7 => (fun _ => 0) | 8 => (fun _ => 0) | 9 => (fun _ => 0) | 10 => u1_0 | 11 => u1_1 | 12 => u1_2 | 13 => (fun _ => 0) | 14 => (fun _ => 0) | 15 => u2_0 | 16 => (fun _ => 0) | 17 => (fun _ => 0) | 18 => (fun _ => 0) | 19 => (fun _ => 0) | _ => fun _ => 0), rfl, rfl, ?_⟩ ⟨(Nat.le_of_ble_eq_true rfl), (Nat.le_of_ble_eq_true rfl)⟩
  exact ⟨hu2_0, hu1_0, hu1_1, hu1_2, fun _ => rfl, fun _ => rfl, hf19, fun _ => rfl, fun _ => rfl, fun _ => rfl, fun _ => rfl, rfl, rfl, fun _ => rfl, fun _ => rfl, fun _ => rfl, fun _ => rfl⟩
end
