/-! ===== by program (wip/whole/law.py): the law's methods ===== -/
section
theorem dL_write_0 : decode cL_write 0 = .ok (.aload 4, 2) := by decide +kernel
theorem dL_write_2 : decode cL_write 2 = .ok (.iconst 0, 1) := by decide +kernel
theorem dL_write_3 : decode cL_write 3 = .ok (.aload_n 0, 1) := by decide +kernel
theorem dL_write_4 : decode cL_write 4 = .ok (.iload_n 1, 1) := by decide +kernel
theorem dL_write_5 : decode cL_write 5 = .ok (.iload_n 2, 1) := by decide +kernel
theorem dL_write_6 : decode cL_write 6 = .ok (.iload_n 3, 1) := by decide +kernel
theorem dL_write_7 : decode cL_write 7 = .ok (.invokevirtual 7, 3) := by decide +kernel
theorem dL_write_10 : decode cL_write 10 = .ok (.i2l, 1) := by decide +kernel
theorem dL_write_11 : decode cL_write 11 = .ok (.lastore, 1) := by decide +kernel
theorem dL_write_12 : decode cL_write 12 = .ok (.goto 7, 3) := by decide +kernel
theorem dL_write_15 : decode cL_write 15 = .ok (.astore 5, 2) := by decide +kernel
theorem dL_write_17 : decode cL_write 17 = .ok (.iconst 1, 1) := by decide +kernel
theorem dL_write_18 : decode cL_write 18 = .ok (.ireturn, 1) := by decide +kernel
theorem dL_write_19 : decode cL_write 19 = .ok (.iconst 0, 1) := by decide +kernel
theorem dL_write_20 : decode cL_write 20 = .ok (.ireturn, 1) := by decide +kernel
abbrev mL_write : MI := (yL_write, cL_write, 6, some .int, 8, 200)
def hL_write : List (Nat × Nat × Nat × Nat) := [(0, 12, 15, 13)]
theorem zi_L_write : zinH mL_write hL_write 5 := ⟨zm1 230 (by decide +kernel) rfl, (zm1 0 (by decide +kernel) rfl), ⟨by decide, by decide⟩, by decide +kernel⟩
set_option maxRecDepth 100000 in
set_option maxHeartbeats 4000000 in
theorem w_write (q : ZQ) (hq : q.1.stackTraces = false) (o : Nat) (cL : ClassId) (p1 p2 p3 : Int32) (M : Mem) (v : Int64) : Zh (zgX q) mL_write hL_write o cL [.ref (q.2.2.2 0), .int p1, .int p2, .int p3, .ref o] M v (wk cE ((f_X4_write p1 p2 p3 M).1)) ((f_X4_write p1 p2 p3 M).2) (wv Int32.toInt64 v ((f_X4_write p1 p2 p3 M).1)) := by
  have hm := k_X4_write q hq p1 p2 p3 M
  have ht : ∀ e : String, (f_X4_write p1 p2 p3 M).1 = .inr e → e = "java/lang/IllegalArgumentException" := fun e h => t_write h
  revert hm ht
  generalize f_X4_write p1 p2 p3 M = r
  intro hm ht
  refine Zh.of (by decide) rfl zi_L_write rfl (Nat.le_of_ble_eq_true rfl) (fun p e s m below meth c ls C hP hD hl => ?_)
  have hl : lv_has ls 6 [(0, .ref (q.2.2.2 0)), (1, .int p1), (2, .int p2), (3, .int p3), (4, .ref o)] := hl
  refine lv_aload C.1.1 C.1.2.1 dL_write_0 (lv_at hl 4 rfl) ?_
  refine lv_iconst (v := 0) C.1.1 C.1.2.1 dL_write_2 (by decide) ?_
  refine lv_aload_n C.1.1 C.1.2.1 dL_write_3 rfl (lv_at hl 0 rfl) ?_
  refine lv_iload_n C.1.1 C.1.2.1 dL_write_4 rfl (lv_at hl 1 rfl) ?_
  refine lv_iload_n C.1.1 C.1.2.1 dL_write_5 rfl (lv_at hl 2 rfl) ?_
  refine lv_iload_n C.1.1 C.1.2.1 dL_write_6 rfl (lv_at hl 3 rfl) ?_
  obtain ⟨a | E0, N0⟩ := r
  · refine zh_run (rest := [.int 0, .ref o]) (N := N0) C hP hD dL_write_7 hm (zm1 232 (by decide +kernel) rfl) (zm1 233 (by decide +kernel) rfl) (zm1 234 (by decide +kernel) rfl) rfl rfl zi_X4_write rfl ⟨Nat.le_of_ble_eq_true rfl, Nat.le_of_ble_eq_true rfl⟩ hl rfl (Nat.le_of_ble_eq_true rfl) ⟨Nat.le_of_ble_eq_true rfl, Nat.le_of_ble_eq_true rfl⟩ (fun E N' h => by cases h) (fun r N' H1 locs1 h hP1 hS1 => ?_)
    cases h
    refine lv_i2l C.1.1 C.1.2.1 dL_write_10 rfl ?_
    exact zh_store (pE := 19) C hP1 hD hS1 dL_write_11 dL_write_12 (by decide) dL_write_19 rfl dL_write_20 rfl ⟨by omega, by omega⟩
  · refine zh_run (rest := [.int 0, .ref o]) (N := N0) C hP hD dL_write_7 hm (zm1 232 (by decide +kernel) rfl) (zm1 233 (by decide +kernel) rfl) (zm1 234 (by decide +kernel) rfl) rfl rfl zi_X4_write rfl ⟨Nat.le_of_ble_eq_true rfl, Nat.le_of_ble_eq_true rfl⟩ hl rfl (Nat.le_of_ble_eq_true rfl) ⟨Nat.le_of_ble_eq_true rfl, Nat.le_of_ble_eq_true rfl⟩ (fun E N' h => ?_) (fun r N' H1 locs1 h hP1 hS1 => by cases h)
    cases h
    have hE := ht _ rfl
    subst hE
    exact ⟨⟨15, ⟨[], [], 0, 12, 13, rfl, ⟨by decide, by decide⟩, by decide, (zm1 231 (by decide +kernel) rfl), List.mem_of_getElem? (i := 0) rfl, fun z hz => absurd hz List.not_mem_nil⟩, ⟨1, (show Int32.ofInt 1 = cE "java/lang/IllegalArgumentException" by decide), Or.inl ⟨5, by decide, dL_write_15, dL_write_17, dL_write_18⟩⟩⟩, rfl, rfl⟩
theorem dL_punch_0 : decode cL_punch 0 = .ok (.aload 4, 2) := by decide +kernel
theorem dL_punch_2 : decode cL_punch 2 = .ok (.iconst 0, 1) := by decide +kernel
theorem dL_punch_3 : decode cL_punch 3 = .ok (.aload_n 0, 1) := by decide +kernel
theorem dL_punch_4 : decode cL_punch 4 = .ok (.iload_n 1, 1) := by decide +kernel
theorem dL_punch_5 : decode cL_punch 5 = .ok (.iload_n 2, 1) := by decide +kernel
theorem dL_punch_6 : decode cL_punch 6 = .ok (.iload_n 3, 1) := by decide +kernel
theorem dL_punch_7 : decode cL_punch 7 = .ok (.invokevirtual 15, 3) := by decide +kernel
theorem dL_punch_10 : decode cL_punch 10 = .ok (.i2l, 1) := by decide +kernel
theorem dL_punch_11 : decode cL_punch 11 = .ok (.lastore, 1) := by decide +kernel
theorem dL_punch_12 : decode cL_punch 12 = .ok (.goto 7, 3) := by decide +kernel
theorem dL_punch_15 : decode cL_punch 15 = .ok (.astore 5, 2) := by decide +kernel
theorem dL_punch_17 : decode cL_punch 17 = .ok (.iconst 1, 1) := by decide +kernel
theorem dL_punch_18 : decode cL_punch 18 = .ok (.ireturn, 1) := by decide +kernel
theorem dL_punch_19 : decode cL_punch 19 = .ok (.iconst 0, 1) := by decide +kernel
theorem dL_punch_20 : decode cL_punch 20 = .ok (.ireturn, 1) := by decide +kernel
abbrev mL_punch : MI := (yL_punch, cL_punch, 6, some .int, 8, 200)
def hL_punch : List (Nat × Nat × Nat × Nat) := [(0, 12, 15, 13)]
theorem zi_L_punch : zinH mL_punch hL_punch 5 := ⟨zm2 93 (by decide +kernel) rfl, (zm1 0 (by decide +kernel) rfl), ⟨by decide, by decide⟩, by decide +kernel⟩
set_option maxRecDepth 100000 in
set_option maxHeartbeats 4000000 in
theorem w_punch (q : ZQ) (hq : q.1.stackTraces = false) (o : Nat) (cL : ClassId) (p1 p2 p3 : Int32) (M : Mem) (v : Int64) : Zh (zgX q) mL_punch hL_punch o cL [.ref (q.2.2.2 0), .int p1, .int p2, .int p3, .ref o] M v (wk cE ((f_X4_punch p1 p2 p3 M).1)) ((f_X4_punch p1 p2 p3 M).2) (wv Int32.toInt64 v ((f_X4_punch p1 p2 p3 M).1)) := by
  have hm := k_X4_punch q hq p1 p2 p3 M
  have ht : ∀ e : String, (f_X4_punch p1 p2 p3 M).1 = .inr e → e = "java/lang/IllegalArgumentException" := fun e h => t_punch h
  revert hm ht
  generalize f_X4_punch p1 p2 p3 M = r
  intro hm ht
  refine Zh.of (by decide) rfl zi_L_punch rfl (Nat.le_of_ble_eq_true rfl) (fun p e s m below meth c ls C hP hD hl => ?_)
  have hl : lv_has ls 6 [(0, .ref (q.2.2.2 0)), (1, .int p1), (2, .int p2), (3, .int p3), (4, .ref o)] := hl
  refine lv_aload C.1.1 C.1.2.1 dL_punch_0 (lv_at hl 4 rfl) ?_
  refine lv_iconst (v := 0) C.1.1 C.1.2.1 dL_punch_2 (by decide) ?_
  refine lv_aload_n C.1.1 C.1.2.1 dL_punch_3 rfl (lv_at hl 0 rfl) ?_
  refine lv_iload_n C.1.1 C.1.2.1 dL_punch_4 rfl (lv_at hl 1 rfl) ?_
  refine lv_iload_n C.1.1 C.1.2.1 dL_punch_5 rfl (lv_at hl 2 rfl) ?_
  refine lv_iload_n C.1.1 C.1.2.1 dL_punch_6 rfl (lv_at hl 3 rfl) ?_
  obtain ⟨a | E0, N0⟩ := r
  · refine zh_run (rest := [.int 0, .ref o]) (N := N0) C hP hD dL_punch_7 hm (zm2 94 (by decide +kernel) rfl) (zm2 95 (by decide +kernel) rfl) (zm2 96 (by decide +kernel) rfl) rfl rfl zi_X4_punch rfl ⟨Nat.le_of_ble_eq_true rfl, Nat.le_of_ble_eq_true rfl⟩ hl rfl (Nat.le_of_ble_eq_true rfl) ⟨Nat.le_of_ble_eq_true rfl, Nat.le_of_ble_eq_true rfl⟩ (fun E N' h => by cases h) (fun r N' H1 locs1 h hP1 hS1 => ?_)
    cases h
    refine lv_i2l C.1.1 C.1.2.1 dL_punch_10 rfl ?_
    exact zh_store (pE := 19) C hP1 hD hS1 dL_punch_11 dL_punch_12 (by decide) dL_punch_19 rfl dL_punch_20 rfl ⟨by omega, by omega⟩
  · refine zh_run (rest := [.int 0, .ref o]) (N := N0) C hP hD dL_punch_7 hm (zm2 94 (by decide +kernel) rfl) (zm2 95 (by decide +kernel) rfl) (zm2 96 (by decide +kernel) rfl) rfl rfl zi_X4_punch rfl ⟨Nat.le_of_ble_eq_true rfl, Nat.le_of_ble_eq_true rfl⟩ hl rfl (Nat.le_of_ble_eq_true rfl) ⟨Nat.le_of_ble_eq_true rfl, Nat.le_of_ble_eq_true rfl⟩ (fun E N' h => ?_) (fun r N' H1 locs1 h hP1 hS1 => by cases h)
    cases h
    have hE := ht _ rfl
    subst hE
    exact ⟨⟨15, ⟨[], [], 0, 12, 13, rfl, ⟨by decide, by decide⟩, by decide, (zm1 231 (by decide +kernel) rfl), List.mem_of_getElem? (i := 0) rfl, fun z hz => absurd hz List.not_mem_nil⟩, ⟨1, (show Int32.ofInt 1 = cE "java/lang/IllegalArgumentException" by decide), Or.inl ⟨5, by decide, dL_punch_15, dL_punch_17, dL_punch_18⟩⟩⟩, rfl, rfl⟩
theorem dL_setCopies_0 : decode cL_setCopies 0 = .ok (.aload_n 3, 1) := by decide +kernel
theorem dL_setCopies_1 : decode cL_setCopies 1 = .ok (.iconst 0, 1) := by decide +kernel
theorem dL_setCopies_2 : decode cL_setCopies 2 = .ok (.aload_n 0, 1) := by decide +kernel
theorem dL_setCopies_3 : decode cL_setCopies 3 = .ok (.iload_n 1, 1) := by decide +kernel
theorem dL_setCopies_4 : decode cL_setCopies 4 = .ok (.iload_n 2, 1) := by decide +kernel
theorem dL_setCopies_5 : decode cL_setCopies 5 = .ok (.invokevirtual 18, 3) := by decide +kernel
theorem dL_setCopies_8 : decode cL_setCopies 8 = .ok (.i2l, 1) := by decide +kernel
theorem dL_setCopies_9 : decode cL_setCopies 9 = .ok (.lastore, 1) := by decide +kernel
theorem dL_setCopies_10 : decode cL_setCopies 10 = .ok (.goto 7, 3) := by decide +kernel
theorem dL_setCopies_13 : decode cL_setCopies 13 = .ok (.astore 4, 2) := by decide +kernel
theorem dL_setCopies_15 : decode cL_setCopies 15 = .ok (.iconst 1, 1) := by decide +kernel
theorem dL_setCopies_16 : decode cL_setCopies 16 = .ok (.ireturn, 1) := by decide +kernel
theorem dL_setCopies_17 : decode cL_setCopies 17 = .ok (.iconst 0, 1) := by decide +kernel
theorem dL_setCopies_18 : decode cL_setCopies 18 = .ok (.ireturn, 1) := by decide +kernel
abbrev mL_setCopies : MI := (yL_setCopies, cL_setCopies, 5, some .int, 8, 200)
def hL_setCopies : List (Nat × Nat × Nat × Nat) := [(0, 10, 13, 13)]
theorem zi_L_setCopies : zinH mL_setCopies hL_setCopies 4 := ⟨zm2 101 (by decide +kernel) rfl, (zm1 0 (by decide +kernel) rfl), ⟨by decide, by decide⟩, by decide +kernel⟩
set_option maxRecDepth 100000 in
set_option maxHeartbeats 4000000 in
theorem w_setCopies (q : ZQ) (hq : q.1.stackTraces = false) (o : Nat) (cL : ClassId) (p1 p2 : Int32) (M : Mem) (v : Int64) : Zh (zgX q) mL_setCopies hL_setCopies o cL [.ref (q.2.2.2 0), .int p1, .int p2, .ref o] M v (wk cE ((f_X4_setCopies p1 p2 M).1)) ((f_X4_setCopies p1 p2 M).2) (wv Int32.toInt64 v ((f_X4_setCopies p1 p2 M).1)) := by
  have hm := k_X4_setCopies q hq p1 p2 M
  have ht : ∀ e : String, (f_X4_setCopies p1 p2 M).1 = .inr e → e = "java/lang/IllegalArgumentException" := fun e h => t_setCopies h
  revert hm ht
  generalize f_X4_setCopies p1 p2 M = r
  intro hm ht
  refine Zh.of (by decide) rfl zi_L_setCopies rfl (Nat.le_of_ble_eq_true rfl) (fun p e s m below meth c ls C hP hD hl => ?_)
  have hl : lv_has ls 5 [(0, .ref (q.2.2.2 0)), (1, .int p1), (2, .int p2), (3, .ref o)] := hl
  refine lv_aload_n C.1.1 C.1.2.1 dL_setCopies_0 rfl (lv_at hl 3 rfl) ?_
  refine lv_iconst (v := 0) C.1.1 C.1.2.1 dL_setCopies_1 (by decide) ?_
  refine lv_aload_n C.1.1 C.1.2.1 dL_setCopies_2 rfl (lv_at hl 0 rfl) ?_
  refine lv_iload_n C.1.1 C.1.2.1 dL_setCopies_3 rfl (lv_at hl 1 rfl) ?_
  refine lv_iload_n C.1.1 C.1.2.1 dL_setCopies_4 rfl (lv_at hl 2 rfl) ?_
  obtain ⟨a | E0, N0⟩ := r
  · refine zh_run (rest := [.int 0, .ref o]) (N := N0) C hP hD dL_setCopies_5 hm (zm2 102 (by decide +kernel) rfl) (zm2 103 (by decide +kernel) rfl) (zm2 104 (by decide +kernel) rfl) rfl rfl zi_X4_setCopies rfl ⟨Nat.le_of_ble_eq_true rfl, Nat.le_of_ble_eq_true rfl⟩ hl rfl (Nat.le_of_ble_eq_true rfl) ⟨Nat.le_of_ble_eq_true rfl, Nat.le_of_ble_eq_true rfl⟩ (fun E N' h => by cases h) (fun r N' H1 locs1 h hP1 hS1 => ?_)
    cases h
    refine lv_i2l C.1.1 C.1.2.1 dL_setCopies_8 rfl ?_
    exact zh_store (pE := 17) C hP1 hD hS1 dL_setCopies_9 dL_setCopies_10 (by decide) dL_setCopies_17 rfl dL_setCopies_18 rfl ⟨by omega, by omega⟩
  · refine zh_run (rest := [.int 0, .ref o]) (N := N0) C hP hD dL_setCopies_5 hm (zm2 102 (by decide +kernel) rfl) (zm2 103 (by decide +kernel) rfl) (zm2 104 (by decide +kernel) rfl) rfl rfl zi_X4_setCopies rfl ⟨Nat.le_of_ble_eq_true rfl, Nat.le_of_ble_eq_true rfl⟩ hl rfl (Nat.le_of_ble_eq_true rfl) ⟨Nat.le_of_ble_eq_true rfl, Nat.le_of_ble_eq_true rfl⟩ (fun E N' h => ?_) (fun r N' H1 locs1 h hP1 hS1 => by cases h)
    cases h
    have hE := ht _ rfl
    subst hE
    exact ⟨⟨13, ⟨[], [], 0, 10, 13, rfl, ⟨by decide, by decide⟩, by decide, (zm1 231 (by decide +kernel) rfl), List.mem_of_getElem? (i := 0) rfl, fun z hz => absurd hz List.not_mem_nil⟩, ⟨1, (show Int32.ofInt 1 = cE "java/lang/IllegalArgumentException" by decide), Or.inl ⟨4, by decide, dL_setCopies_13, dL_setCopies_15, dL_setCopies_16⟩⟩⟩, rfl, rfl⟩
theorem dL_read_0 : decode cL_read 0 = .ok (.aload_n 3, 1) := by decide +kernel
theorem dL_read_1 : decode cL_read 1 = .ok (.iconst 0, 1) := by decide +kernel
theorem dL_read_2 : decode cL_read 2 = .ok (.aload_n 0, 1) := by decide +kernel
theorem dL_read_3 : decode cL_read 3 = .ok (.iload_n 1, 1) := by decide +kernel
theorem dL_read_4 : decode cL_read 4 = .ok (.iload_n 2, 1) := by decide +kernel
theorem dL_read_5 : decode cL_read 5 = .ok (.invokevirtual 22, 3) := by decide +kernel
theorem dL_read_8 : decode cL_read 8 = .ok (.i2l, 1) := by decide +kernel
theorem dL_read_9 : decode cL_read 9 = .ok (.lastore, 1) := by decide +kernel
theorem dL_read_10 : decode cL_read 10 = .ok (.goto 11, 3) := by decide +kernel
theorem dL_read_13 : decode cL_read 13 = .ok (.astore 4, 2) := by decide +kernel
theorem dL_read_15 : decode cL_read 15 = .ok (.iconst 1, 1) := by decide +kernel
theorem dL_read_16 : decode cL_read 16 = .ok (.ireturn, 1) := by decide +kernel
theorem dL_read_17 : decode cL_read 17 = .ok (.astore 4, 2) := by decide +kernel
theorem dL_read_19 : decode cL_read 19 = .ok (.iconst 2, 1) := by decide +kernel
theorem dL_read_20 : decode cL_read 20 = .ok (.ireturn, 1) := by decide +kernel
theorem dL_read_21 : decode cL_read 21 = .ok (.iconst 0, 1) := by decide +kernel
theorem dL_read_22 : decode cL_read 22 = .ok (.ireturn, 1) := by decide +kernel
abbrev mL_read : MI := (yL_read, cL_read, 5, some .int, 8, 200)
def hL_read : List (Nat × Nat × Nat × Nat) := [(0, 10, 13, 13), (0, 10, 17, 25)]
theorem zi_L_read : zinH mL_read hL_read 4 := ⟨zm2 109 (by decide +kernel) rfl, (zm1 0 (by decide +kernel) rfl), ⟨by decide, by decide⟩, by decide +kernel⟩
set_option maxRecDepth 100000 in
set_option maxHeartbeats 4000000 in
theorem w_read (q : ZQ) (hq : q.1.stackTraces = false) (o : Nat) (cL : ClassId) (p1 p2 : Int32) (M : Mem) (v : Int64) : Zh (zgX q) mL_read hL_read o cL [.ref (q.2.2.2 0), .int p1, .int p2, .ref o] M v (wk cE ((f_X4_read p1 p2 M).1)) ((f_X4_read p1 p2 M).2) (wv Int32.toInt64 v ((f_X4_read p1 p2 M).1)) := by
  have hm := k_X4_read q hq p1 p2 M
  have ht : ∀ e : String, (f_X4_read p1 p2 M).1 = .inr e → e = "java/lang/IllegalArgumentException" ∨ e = "java/lang/IllegalStateException" := fun e h => t_read h
  revert hm ht
  generalize f_X4_read p1 p2 M = r
  intro hm ht
  refine Zh.of (by decide) rfl zi_L_read rfl (Nat.le_of_ble_eq_true rfl) (fun p e s m below meth c ls C hP hD hl => ?_)
  have hl : lv_has ls 5 [(0, .ref (q.2.2.2 0)), (1, .int p1), (2, .int p2), (3, .ref o)] := hl
  refine lv_aload_n C.1.1 C.1.2.1 dL_read_0 rfl (lv_at hl 3 rfl) ?_
  refine lv_iconst (v := 0) C.1.1 C.1.2.1 dL_read_1 (by decide) ?_
  refine lv_aload_n C.1.1 C.1.2.1 dL_read_2 rfl (lv_at hl 0 rfl) ?_
  refine lv_iload_n C.1.1 C.1.2.1 dL_read_3 rfl (lv_at hl 1 rfl) ?_
  refine lv_iload_n C.1.1 C.1.2.1 dL_read_4 rfl (lv_at hl 2 rfl) ?_
  obtain ⟨a | E0, N0⟩ := r
  · refine zh_run (rest := [.int 0, .ref o]) (N := N0) C hP hD dL_read_5 hm (zm2 111 (by decide +kernel) rfl) (zm2 112 (by decide +kernel) rfl) (zm2 113 (by decide +kernel) rfl) rfl rfl zi_X4_read rfl ⟨Nat.le_of_ble_eq_true rfl, Nat.le_of_ble_eq_true rfl⟩ hl rfl (Nat.le_of_ble_eq_true rfl) ⟨Nat.le_of_ble_eq_true rfl, Nat.le_of_ble_eq_true rfl⟩ (fun E N' h => by cases h) (fun r N' H1 locs1 h hP1 hS1 => ?_)
    cases h
    refine lv_i2l C.1.1 C.1.2.1 dL_read_8 rfl ?_
    exact zh_store (pE := 21) C hP1 hD hS1 dL_read_9 dL_read_10 (by decide) dL_read_21 rfl dL_read_22 rfl ⟨by omega, by omega⟩
  · refine zh_run (rest := [.int 0, .ref o]) (N := N0) C hP hD dL_read_5 hm (zm2 111 (by decide +kernel) rfl) (zm2 112 (by decide +kernel) rfl) (zm2 113 (by decide +kernel) rfl) rfl rfl zi_X4_read rfl ⟨Nat.le_of_ble_eq_true rfl, Nat.le_of_ble_eq_true rfl⟩ hl rfl (Nat.le_of_ble_eq_true rfl) ⟨Nat.le_of_ble_eq_true rfl, Nat.le_of_ble_eq_true rfl⟩ (fun E N' h => ?_) (fun r N' H1 locs1 h hP1 hS1 => by cases h)
    cases h
    rcases ht _ rfl with hE | hE
    · subst hE
      exact ⟨⟨13, ⟨[], [(0, 10, 17, 25)], 0, 10, 13, rfl, ⟨by decide, by decide⟩, by decide, (zm1 231 (by decide +kernel) rfl), List.mem_of_getElem? (i := 0) rfl, fun z hz => absurd hz List.not_mem_nil⟩, ⟨1, (show Int32.ofInt 1 = cE "java/lang/IllegalArgumentException" by decide), Or.inl ⟨4, by decide, dL_read_13, dL_read_15, dL_read_16⟩⟩⟩, rfl, rfl⟩
    · subst hE
      exact ⟨⟨17, ⟨[(0, 10, 13, 13)], [], 0, 10, 25, rfl, ⟨by decide, by decide⟩, by decide, (zm2 110 (by decide +kernel) rfl), List.mem_of_getElem? (i := 1) rfl, fun z hz => by cases List.mem_singleton.mp hz; exact ⟨by decide, (zm1 231 (by decide +kernel) rfl), Or.inl rfl⟩⟩, ⟨2, (show Int32.ofInt 2 = cE "java/lang/IllegalStateException" by decide), Or.inl ⟨4, by decide, dL_read_17, dL_read_19, dL_read_20⟩⟩⟩, rfl, rfl⟩
theorem dL_nextData_0 : decode cL_nextData 0 = .ok (.aload_n 3, 1) := by decide +kernel
theorem dL_nextData_1 : decode cL_nextData 1 = .ok (.iconst 0, 1) := by decide +kernel
theorem dL_nextData_2 : decode cL_nextData 2 = .ok (.aload_n 0, 1) := by decide +kernel
theorem dL_nextData_3 : decode cL_nextData 3 = .ok (.iload_n 1, 1) := by decide +kernel
theorem dL_nextData_4 : decode cL_nextData 4 = .ok (.iload_n 2, 1) := by decide +kernel
theorem dL_nextData_5 : decode cL_nextData 5 = .ok (.invokevirtual 27, 3) := by decide +kernel
theorem dL_nextData_8 : decode cL_nextData 8 = .ok (.i2l, 1) := by decide +kernel
theorem dL_nextData_9 : decode cL_nextData 9 = .ok (.lastore, 1) := by decide +kernel
theorem dL_nextData_10 : decode cL_nextData 10 = .ok (.goto 11, 3) := by decide +kernel
theorem dL_nextData_13 : decode cL_nextData 13 = .ok (.astore 4, 2) := by decide +kernel
theorem dL_nextData_15 : decode cL_nextData 15 = .ok (.iconst 1, 1) := by decide +kernel
theorem dL_nextData_16 : decode cL_nextData 16 = .ok (.ireturn, 1) := by decide +kernel
theorem dL_nextData_17 : decode cL_nextData 17 = .ok (.astore 4, 2) := by decide +kernel
theorem dL_nextData_19 : decode cL_nextData 19 = .ok (.iconst 2, 1) := by decide +kernel
theorem dL_nextData_20 : decode cL_nextData 20 = .ok (.ireturn, 1) := by decide +kernel
theorem dL_nextData_21 : decode cL_nextData 21 = .ok (.iconst 0, 1) := by decide +kernel
theorem dL_nextData_22 : decode cL_nextData 22 = .ok (.ireturn, 1) := by decide +kernel
abbrev mL_nextData : MI := (yL_nextData, cL_nextData, 5, some .int, 8, 200)
def hL_nextData : List (Nat × Nat × Nat × Nat) := [(0, 10, 13, 13), (0, 10, 17, 30)]
theorem zi_L_nextData : zinH mL_nextData hL_nextData 4 := ⟨zm2 142 (by decide +kernel) rfl, (zm1 0 (by decide +kernel) rfl), ⟨by decide, by decide⟩, by decide +kernel⟩
set_option maxRecDepth 100000 in
set_option maxHeartbeats 4000000 in
theorem w_nextData (q : ZQ) (hq : q.1.stackTraces = false) (o : Nat) (cL : ClassId) (p1 p2 : Int32) (M : Mem) (v : Int64) : Zh (zgX q) mL_nextData hL_nextData o cL [.ref (q.2.2.2 0), .int p1, .int p2, .ref o] M v (wk cE (f_X4_nextData p1 p2 M)) M (wv Int32.toInt64 v (f_X4_nextData p1 p2 M)) := by
  have hm := k_X4_nextData q hq p1 p2 M
  have ht : ∀ e : String, f_X4_nextData p1 p2 M = .inr e → e = "java/lang/IllegalArgumentException" ∨ e = "java/util/NoSuchElementException" := fun e h => t_nextData h
  revert hm ht
  generalize f_X4_nextData p1 p2 M = r
  intro hm ht
  refine Zh.of (by decide) rfl zi_L_nextData rfl (Nat.le_of_ble_eq_true rfl) (fun p e s m below meth c ls C hP hD hl => ?_)
  have hl : lv_has ls 5 [(0, .ref (q.2.2.2 0)), (1, .int p1), (2, .int p2), (3, .ref o)] := hl
  refine lv_aload_n C.1.1 C.1.2.1 dL_nextData_0 rfl (lv_at hl 3 rfl) ?_
  refine lv_iconst (v := 0) C.1.1 C.1.2.1 dL_nextData_1 (by decide) ?_
  refine lv_aload_n C.1.1 C.1.2.1 dL_nextData_2 rfl (lv_at hl 0 rfl) ?_
  refine lv_iload_n C.1.1 C.1.2.1 dL_nextData_3 rfl (lv_at hl 1 rfl) ?_
  refine lv_iload_n C.1.1 C.1.2.1 dL_nextData_4 rfl (lv_at hl 2 rfl) ?_
  obtain a | E0 := r
  · refine zh_run (rest := [.int 0, .ref o]) (N := M) C hP hD dL_nextData_5 hm (zm2 144 (by decide +kernel) rfl) (zm2 145 (by decide +kernel) rfl) (zm2 146 (by decide +kernel) rfl) rfl rfl zi_X4_nextData rfl ⟨Nat.le_of_ble_eq_true rfl, Nat.le_of_ble_eq_true rfl⟩ hl rfl (Nat.le_of_ble_eq_true rfl) ⟨Nat.le_of_ble_eq_true rfl, Nat.le_of_ble_eq_true rfl⟩ (fun E N' h => by cases h) (fun r N' H1 locs1 h hP1 hS1 => ?_)
    cases h
    refine lv_i2l C.1.1 C.1.2.1 dL_nextData_8 rfl ?_
    exact zh_store (pE := 21) C hP1 hD hS1 dL_nextData_9 dL_nextData_10 (by decide) dL_nextData_21 rfl dL_nextData_22 rfl ⟨by omega, by omega⟩
  · refine zh_run (rest := [.int 0, .ref o]) (N := M) C hP hD dL_nextData_5 hm (zm2 144 (by decide +kernel) rfl) (zm2 145 (by decide +kernel) rfl) (zm2 146 (by decide +kernel) rfl) rfl rfl zi_X4_nextData rfl ⟨Nat.le_of_ble_eq_true rfl, Nat.le_of_ble_eq_true rfl⟩ hl rfl (Nat.le_of_ble_eq_true rfl) ⟨Nat.le_of_ble_eq_true rfl, Nat.le_of_ble_eq_true rfl⟩ (fun E N' h => ?_) (fun r N' H1 locs1 h hP1 hS1 => by cases h)
    cases h
    rcases ht _ rfl with hE | hE
    · subst hE
      exact ⟨⟨13, ⟨[], [(0, 10, 17, 30)], 0, 10, 13, rfl, ⟨by decide, by decide⟩, by decide, (zm1 231 (by decide +kernel) rfl), List.mem_of_getElem? (i := 0) rfl, fun z hz => absurd hz List.not_mem_nil⟩, ⟨1, (show Int32.ofInt 1 = cE "java/lang/IllegalArgumentException" by decide), Or.inl ⟨4, by decide, dL_nextData_13, dL_nextData_15, dL_nextData_16⟩⟩⟩, rfl, rfl⟩
    · subst hE
      exact ⟨⟨17, ⟨[(0, 10, 13, 13)], [], 0, 10, 30, rfl, ⟨by decide, by decide⟩, by decide, (zm2 143 (by decide +kernel) rfl), List.mem_of_getElem? (i := 2) rfl, fun z hz => by cases List.mem_singleton.mp hz; exact ⟨by decide, (zm1 231 (by decide +kernel) rfl), Or.inr rfl⟩⟩, ⟨2, (show Int32.ofInt 2 = cE "java/util/NoSuchElementException" by decide), Or.inl ⟨4, by decide, dL_nextData_17, dL_nextData_19, dL_nextData_20⟩⟩⟩, rfl, rfl⟩
theorem dL_nextHole_0 : decode cL_nextHole 0 = .ok (.aload_n 3, 1) := by decide +kernel
theorem dL_nextHole_1 : decode cL_nextHole 1 = .ok (.iconst 0, 1) := by decide +kernel
theorem dL_nextHole_2 : decode cL_nextHole 2 = .ok (.aload_n 0, 1) := by decide +kernel
theorem dL_nextHole_3 : decode cL_nextHole 3 = .ok (.iload_n 1, 1) := by decide +kernel
theorem dL_nextHole_4 : decode cL_nextHole 4 = .ok (.iload_n 2, 1) := by decide +kernel
theorem dL_nextHole_5 : decode cL_nextHole 5 = .ok (.invokevirtual 32, 3) := by decide +kernel
theorem dL_nextHole_8 : decode cL_nextHole 8 = .ok (.i2l, 1) := by decide +kernel
theorem dL_nextHole_9 : decode cL_nextHole 9 = .ok (.lastore, 1) := by decide +kernel
theorem dL_nextHole_10 : decode cL_nextHole 10 = .ok (.goto 7, 3) := by decide +kernel
theorem dL_nextHole_13 : decode cL_nextHole 13 = .ok (.astore 4, 2) := by decide +kernel
theorem dL_nextHole_15 : decode cL_nextHole 15 = .ok (.iconst 1, 1) := by decide +kernel
theorem dL_nextHole_16 : decode cL_nextHole 16 = .ok (.ireturn, 1) := by decide +kernel
theorem dL_nextHole_17 : decode cL_nextHole 17 = .ok (.iconst 0, 1) := by decide +kernel
theorem dL_nextHole_18 : decode cL_nextHole 18 = .ok (.ireturn, 1) := by decide +kernel
abbrev mL_nextHole : MI := (yL_nextHole, cL_nextHole, 5, some .int, 8, 200)
def hL_nextHole : List (Nat × Nat × Nat × Nat) := [(0, 10, 13, 13)]
theorem zi_L_nextHole : zinH mL_nextHole hL_nextHole 4 := ⟨zm2 166 (by decide +kernel) rfl, (zm1 0 (by decide +kernel) rfl), ⟨by decide, by decide⟩, by decide +kernel⟩
set_option maxRecDepth 100000 in
set_option maxHeartbeats 4000000 in
theorem w_nextHole (q : ZQ) (hq : q.1.stackTraces = false) (o : Nat) (cL : ClassId) (p1 p2 : Int32) (M : Mem) (v : Int64) : Zh (zgX q) mL_nextHole hL_nextHole o cL [.ref (q.2.2.2 0), .int p1, .int p2, .ref o] M v (wk cE (f_X4_nextHole p1 p2 M)) M (wv Int32.toInt64 v (f_X4_nextHole p1 p2 M)) := by
  have hm := k_X4_nextHole q hq p1 p2 M
  have ht : ∀ e : String, f_X4_nextHole p1 p2 M = .inr e → e = "java/lang/IllegalArgumentException" := fun e h => t_nextHole h
  revert hm ht
  generalize f_X4_nextHole p1 p2 M = r
  intro hm ht
  refine Zh.of (by decide) rfl zi_L_nextHole rfl (Nat.le_of_ble_eq_true rfl) (fun p e s m below meth c ls C hP hD hl => ?_)
  have hl : lv_has ls 5 [(0, .ref (q.2.2.2 0)), (1, .int p1), (2, .int p2), (3, .ref o)] := hl
  refine lv_aload_n C.1.1 C.1.2.1 dL_nextHole_0 rfl (lv_at hl 3 rfl) ?_
  refine lv_iconst (v := 0) C.1.1 C.1.2.1 dL_nextHole_1 (by decide) ?_
  refine lv_aload_n C.1.1 C.1.2.1 dL_nextHole_2 rfl (lv_at hl 0 rfl) ?_
  refine lv_iload_n C.1.1 C.1.2.1 dL_nextHole_3 rfl (lv_at hl 1 rfl) ?_
  refine lv_iload_n C.1.1 C.1.2.1 dL_nextHole_4 rfl (lv_at hl 2 rfl) ?_
  obtain a | E0 := r
  · refine zh_run (rest := [.int 0, .ref o]) (N := M) C hP hD dL_nextHole_5 hm (zm2 167 (by decide +kernel) rfl) (zm2 168 (by decide +kernel) rfl) (zm2 169 (by decide +kernel) rfl) rfl rfl zi_X4_nextHole rfl ⟨Nat.le_of_ble_eq_true rfl, Nat.le_of_ble_eq_true rfl⟩ hl rfl (Nat.le_of_ble_eq_true rfl) ⟨Nat.le_of_ble_eq_true rfl, Nat.le_of_ble_eq_true rfl⟩ (fun E N' h => by cases h) (fun r N' H1 locs1 h hP1 hS1 => ?_)
    cases h
    refine lv_i2l C.1.1 C.1.2.1 dL_nextHole_8 rfl ?_
    exact zh_store (pE := 17) C hP1 hD hS1 dL_nextHole_9 dL_nextHole_10 (by decide) dL_nextHole_17 rfl dL_nextHole_18 rfl ⟨by omega, by omega⟩
  · refine zh_run (rest := [.int 0, .ref o]) (N := M) C hP hD dL_nextHole_5 hm (zm2 167 (by decide +kernel) rfl) (zm2 168 (by decide +kernel) rfl) (zm2 169 (by decide +kernel) rfl) rfl rfl zi_X4_nextHole rfl ⟨Nat.le_of_ble_eq_true rfl, Nat.le_of_ble_eq_true rfl⟩ hl rfl (Nat.le_of_ble_eq_true rfl) ⟨Nat.le_of_ble_eq_true rfl, Nat.le_of_ble_eq_true rfl⟩ (fun E N' h => ?_) (fun r N' H1 locs1 h hP1 hS1 => by cases h)
    cases h
    have hE := ht _ rfl
    subst hE
    exact ⟨⟨13, ⟨[], [], 0, 10, 13, rfl, ⟨by decide, by decide⟩, by decide, (zm1 231 (by decide +kernel) rfl), List.mem_of_getElem? (i := 0) rfl, fun z hz => absurd hz List.not_mem_nil⟩, ⟨1, (show Int32.ofInt 1 = cE "java/lang/IllegalArgumentException" by decide), Or.inl ⟨4, by decide, dL_nextHole_13, dL_nextHole_15, dL_nextHole_16⟩⟩⟩, rfl, rfl⟩
theorem dL_sync_0 : decode cL_sync 0 = .ok (.aload_n 1, 1) := by decide +kernel
theorem dL_sync_1 : decode cL_sync 1 = .ok (.iconst 0, 1) := by decide +kernel
theorem dL_sync_2 : decode cL_sync 2 = .ok (.aload_n 0, 1) := by decide +kernel
theorem dL_sync_3 : decode cL_sync 3 = .ok (.invokevirtual 35, 3) := by decide +kernel
theorem dL_sync_6 : decode cL_sync 6 = .ok (.i2l, 1) := by decide +kernel
theorem dL_sync_7 : decode cL_sync 7 = .ok (.lastore, 1) := by decide +kernel
theorem dL_sync_8 : decode cL_sync 8 = .ok (.goto 6, 3) := by decide +kernel
theorem dL_sync_11 : decode cL_sync 11 = .ok (.astore_n 2, 1) := by decide +kernel
theorem dL_sync_12 : decode cL_sync 12 = .ok (.iconst 1, 1) := by decide +kernel
theorem dL_sync_13 : decode cL_sync 13 = .ok (.ireturn, 1) := by decide +kernel
theorem dL_sync_14 : decode cL_sync 14 = .ok (.iconst 0, 1) := by decide +kernel
theorem dL_sync_15 : decode cL_sync 15 = .ok (.ireturn, 1) := by decide +kernel
abbrev mL_sync : MI := (yL_sync, cL_sync, 3, some .int, 8, 200)
def hL_sync : List (Nat × Nat × Nat × Nat) := [(0, 8, 11, 25)]
theorem zi_L_sync : zinH mL_sync hL_sync 2 := ⟨zm2 173 (by decide +kernel) rfl, (zm1 0 (by decide +kernel) rfl), ⟨by decide, by decide⟩, by decide +kernel⟩
set_option maxRecDepth 100000 in
set_option maxHeartbeats 4000000 in
theorem w_sync (q : ZQ) (hq : q.1.stackTraces = false) (o : Nat) (cL : ClassId) (M : Mem) (v : Int64) : Zh (zgX q) mL_sync hL_sync o cL [.ref (q.2.2.2 0), .ref o] M v (wk c1E ((f_X4_sync M).1)) ((f_X4_sync M).2) (wv Int32.toInt64 v ((f_X4_sync M).1)) := by
  have hm := k_X4_sync q hq M
  have ht : ∀ e : String, (f_X4_sync M).1 = .inr e → e = "java/lang/IllegalStateException" := fun e h => t_sync h
  revert hm ht
  generalize f_X4_sync M = r
  intro hm ht
  refine Zh.of (by decide) rfl zi_L_sync rfl (Nat.le_of_ble_eq_true rfl) (fun p e s m below meth c ls C hP hD hl => ?_)
  have hl : lv_has ls 3 [(0, .ref (q.2.2.2 0)), (1, .ref o)] := hl
  refine lv_aload_n C.1.1 C.1.2.1 dL_sync_0 rfl (lv_at hl 1 rfl) ?_
  refine lv_iconst (v := 0) C.1.1 C.1.2.1 dL_sync_1 (by decide) ?_
  refine lv_aload_n C.1.1 C.1.2.1 dL_sync_2 rfl (lv_at hl 0 rfl) ?_
  obtain ⟨a | E0, N0⟩ := r
  · refine zh_run (rest := [.int 0, .ref o]) (N := N0) C hP hD dL_sync_3 hm (zm2 174 (by decide +kernel) rfl) (zm2 175 (by decide +kernel) rfl) (zm2 176 (by decide +kernel) rfl) rfl rfl zi_X4_sync rfl ⟨Nat.le_of_ble_eq_true rfl, Nat.le_of_ble_eq_true rfl⟩ hl rfl (Nat.le_of_ble_eq_true rfl) ⟨Nat.le_of_ble_eq_true rfl, Nat.le_of_ble_eq_true rfl⟩ (fun E N' h => by cases h) (fun r N' H1 locs1 h hP1 hS1 => ?_)
    cases h
    refine lv_i2l C.1.1 C.1.2.1 dL_sync_6 rfl ?_
    exact zh_store (pE := 14) C hP1 hD hS1 dL_sync_7 dL_sync_8 (by decide) dL_sync_14 rfl dL_sync_15 rfl ⟨by omega, by omega⟩
  · refine zh_run (rest := [.int 0, .ref o]) (N := N0) C hP hD dL_sync_3 hm (zm2 174 (by decide +kernel) rfl) (zm2 175 (by decide +kernel) rfl) (zm2 176 (by decide +kernel) rfl) rfl rfl zi_X4_sync rfl ⟨Nat.le_of_ble_eq_true rfl, Nat.le_of_ble_eq_true rfl⟩ hl rfl (Nat.le_of_ble_eq_true rfl) ⟨Nat.le_of_ble_eq_true rfl, Nat.le_of_ble_eq_true rfl⟩ (fun E N' h => ?_) (fun r N' H1 locs1 h hP1 hS1 => by cases h)
    cases h
    have hE := ht _ rfl
    subst hE
    exact ⟨⟨11, ⟨[], [], 0, 8, 25, rfl, ⟨by decide, by decide⟩, by decide, (zm2 110 (by decide +kernel) rfl), List.mem_of_getElem? (i := 1) rfl, fun z hz => absurd hz List.not_mem_nil⟩, ⟨1, (show Int32.ofInt 1 = c1E "java/lang/IllegalStateException" by decide), Or.inr ⟨2, by decide, dL_sync_11, dL_sync_12, dL_sync_13⟩⟩⟩, rfl, rfl⟩
theorem dL_offline_0 : decode cL_offline 0 = .ok (.aload_n 0, 1) := by decide +kernel
theorem dL_offline_1 : decode cL_offline 1 = .ok (.iload_n 1, 1) := by decide +kernel
theorem dL_offline_2 : decode cL_offline 2 = .ok (.iload_n 2, 1) := by decide +kernel
theorem dL_offline_3 : decode cL_offline 3 = .ok (.invokevirtual 39, 3) := by decide +kernel
theorem dL_offline_6 : decode cL_offline 6 = .ok (.goto 9, 3) := by decide +kernel
theorem dL_offline_9 : decode cL_offline 9 = .ok (.astore_n 3, 1) := by decide +kernel
theorem dL_offline_10 : decode cL_offline 10 = .ok (.iconst 1, 1) := by decide +kernel
theorem dL_offline_11 : decode cL_offline 11 = .ok (.ireturn, 1) := by decide +kernel
theorem dL_offline_12 : decode cL_offline 12 = .ok (.astore_n 3, 1) := by decide +kernel
theorem dL_offline_13 : decode cL_offline 13 = .ok (.iconst 2, 1) := by decide +kernel
theorem dL_offline_14 : decode cL_offline 14 = .ok (.ireturn, 1) := by decide +kernel
theorem dL_offline_15 : decode cL_offline 15 = .ok (.iconst 0, 1) := by decide +kernel
theorem dL_offline_16 : decode cL_offline 16 = .ok (.ireturn, 1) := by decide +kernel
abbrev mL_offline : MI := (yL_offline, cL_offline, 4, some .int, 8, 200)
def hL_offline : List (Nat × Nat × Nat × Nat) := [(0, 6, 9, 13), (0, 6, 12, 25)]
theorem zi_L_offline : zinH mL_offline hL_offline 3 := ⟨zm3 73 (by decide +kernel) rfl, (zm1 0 (by decide +kernel) rfl), ⟨by decide, by decide⟩, by decide +kernel⟩
set_option maxRecDepth 100000 in
set_option maxHeartbeats 4000000 in
theorem w_offline (q : ZQ) (hq : q.1.stackTraces = false) (o : Nat) (cL : ClassId) (p1 p2 : Int32) (M : Mem) (v : Int64) : Zh (zgX q) mL_offline hL_offline o cL [.ref (q.2.2.2 0), .int p1, .int p2] M v (wk cE ((f_X4_offline p1 p2 M).1)) ((f_X4_offline p1 p2 M).2) (wv (fun _ => v) v ((f_X4_offline p1 p2 M).1)) := by
  have hm := k_X4_offline q hq p1 p2 M
  have ht : ∀ e : String, (f_X4_offline p1 p2 M).1 = .inr e → e = "java/lang/IllegalArgumentException" ∨ e = "java/lang/IllegalStateException" := fun e h => t_offline h
  revert hm ht
  generalize f_X4_offline p1 p2 M = r
  intro hm ht
  refine Zh.of (by decide) rfl zi_L_offline rfl (Nat.le_of_ble_eq_true rfl) (fun p e s m below meth c ls C hP hD hl => ?_)
  have hl : lv_has ls 4 [(0, .ref (q.2.2.2 0)), (1, .int p1), (2, .int p2)] := hl
  refine lv_aload_n C.1.1 C.1.2.1 dL_offline_0 rfl (lv_at hl 0 rfl) ?_
  refine lv_iload_n C.1.1 C.1.2.1 dL_offline_1 rfl (lv_at hl 1 rfl) ?_
  refine lv_iload_n C.1.1 C.1.2.1 dL_offline_2 rfl (lv_at hl 2 rfl) ?_
  obtain ⟨a | E0, N0⟩ := r
  · refine zh_run (rest := []) (N := N0) C hP hD dL_offline_3 hm (zm3 74 (by decide +kernel) rfl) (zm3 75 (by decide +kernel) rfl) (zm3 76 (by decide +kernel) rfl) rfl rfl zi_X4_offline rfl ⟨Nat.le_of_ble_eq_true rfl, Nat.le_of_ble_eq_true rfl⟩ hl rfl (Nat.le_of_ble_eq_true rfl) ⟨Nat.le_of_ble_eq_true rfl, Nat.le_of_ble_eq_true rfl⟩ (fun E N' h => by cases h) (fun r N' H1 locs1 h hP1 hS1 => ?_)
    cases h
    refine lv_goto (tgt := 15) C.1.1 C.1.2.1 dL_offline_6 (by decide) ?_
    exact zh_ret C hP1 hS1 dL_offline_15 rfl dL_offline_16 ⟨by omega, by omega⟩
  · refine zh_run (rest := []) (N := N0) C hP hD dL_offline_3 hm (zm3 74 (by decide +kernel) rfl) (zm3 75 (by decide +kernel) rfl) (zm3 76 (by decide +kernel) rfl) rfl rfl zi_X4_offline rfl ⟨Nat.le_of_ble_eq_true rfl, Nat.le_of_ble_eq_true rfl⟩ hl rfl (Nat.le_of_ble_eq_true rfl) ⟨Nat.le_of_ble_eq_true rfl, Nat.le_of_ble_eq_true rfl⟩ (fun E N' h => ?_) (fun r N' H1 locs1 h hP1 hS1 => by cases h)
    cases h
    rcases ht _ rfl with hE | hE
    · subst hE
      exact ⟨⟨9, ⟨[], [(0, 6, 12, 25)], 0, 6, 13, rfl, ⟨by decide, by decide⟩, by decide, (zm1 231 (by decide +kernel) rfl), List.mem_of_getElem? (i := 0) rfl, fun z hz => absurd hz List.not_mem_nil⟩, ⟨1, (show Int32.ofInt 1 = cE "java/lang/IllegalArgumentException" by decide), Or.inr ⟨3, by decide, dL_offline_9, dL_offline_10, dL_offline_11⟩⟩⟩, rfl, rfl⟩
    · subst hE
      exact ⟨⟨12, ⟨[(0, 6, 9, 13)], [], 0, 6, 25, rfl, ⟨by decide, by decide⟩, by decide, (zm2 110 (by decide +kernel) rfl), List.mem_of_getElem? (i := 1) rfl, fun z hz => by cases List.mem_singleton.mp hz; exact ⟨by decide, (zm1 231 (by decide +kernel) rfl), Or.inl rfl⟩⟩, ⟨2, (show Int32.ofInt 2 = cE "java/lang/IllegalStateException" by decide), Or.inr ⟨3, by decide, dL_offline_12, dL_offline_13, dL_offline_14⟩⟩⟩, rfl, rfl⟩
theorem dL_online_0 : decode cL_online 0 = .ok (.aload_n 3, 1) := by decide +kernel
theorem dL_online_1 : decode cL_online 1 = .ok (.iconst 0, 1) := by decide +kernel
theorem dL_online_2 : decode cL_online 2 = .ok (.aload_n 0, 1) := by decide +kernel
theorem dL_online_3 : decode cL_online 3 = .ok (.iload_n 1, 1) := by decide +kernel
theorem dL_online_4 : decode cL_online 4 = .ok (.iload_n 2, 1) := by decide +kernel
theorem dL_online_5 : decode cL_online 5 = .ok (.invokevirtual 43, 3) := by decide +kernel
theorem dL_online_8 : decode cL_online 8 = .ok (.i2l, 1) := by decide +kernel
theorem dL_online_9 : decode cL_online 9 = .ok (.lastore, 1) := by decide +kernel
theorem dL_online_10 : decode cL_online 10 = .ok (.goto 11, 3) := by decide +kernel
theorem dL_online_13 : decode cL_online 13 = .ok (.astore 4, 2) := by decide +kernel
theorem dL_online_15 : decode cL_online 15 = .ok (.iconst 1, 1) := by decide +kernel
theorem dL_online_16 : decode cL_online 16 = .ok (.ireturn, 1) := by decide +kernel
theorem dL_online_17 : decode cL_online 17 = .ok (.astore 4, 2) := by decide +kernel
theorem dL_online_19 : decode cL_online 19 = .ok (.iconst 2, 1) := by decide +kernel
theorem dL_online_20 : decode cL_online 20 = .ok (.ireturn, 1) := by decide +kernel
theorem dL_online_21 : decode cL_online 21 = .ok (.iconst 0, 1) := by decide +kernel
theorem dL_online_22 : decode cL_online 22 = .ok (.ireturn, 1) := by decide +kernel
abbrev mL_online : MI := (yL_online, cL_online, 5, some .int, 8, 200)
def hL_online : List (Nat × Nat × Nat × Nat) := [(0, 10, 13, 13), (0, 10, 17, 25)]
theorem zi_L_online : zinH mL_online hL_online 4 := ⟨zm3 88 (by decide +kernel) rfl, (zm1 0 (by decide +kernel) rfl), ⟨by decide, by decide⟩, by decide +kernel⟩
set_option maxRecDepth 100000 in
set_option maxHeartbeats 4000000 in
theorem w_online (q : ZQ) (hq : q.1.stackTraces = false) (o : Nat) (cL : ClassId) (p1 p2 : Int32) (M : Mem) (v : Int64) : Zh (zgX q) mL_online hL_online o cL [.ref (q.2.2.2 0), .int p1, .int p2, .ref o] M v (wk cE ((f_X4_online p1 p2 M).1)) ((f_X4_online p1 p2 M).2) (wv Int32.toInt64 v ((f_X4_online p1 p2 M).1)) := by
  have hm := k_X4_online q hq p1 p2 M
  have ht : ∀ e : String, (f_X4_online p1 p2 M).1 = .inr e → e = "java/lang/IllegalArgumentException" ∨ e = "java/lang/IllegalStateException" := fun e h => t_online h
  revert hm ht
  generalize f_X4_online p1 p2 M = r
  intro hm ht
  refine Zh.of (by decide) rfl zi_L_online rfl (Nat.le_of_ble_eq_true rfl) (fun p e s m below meth c ls C hP hD hl => ?_)
  have hl : lv_has ls 5 [(0, .ref (q.2.2.2 0)), (1, .int p1), (2, .int p2), (3, .ref o)] := hl
  refine lv_aload_n C.1.1 C.1.2.1 dL_online_0 rfl (lv_at hl 3 rfl) ?_
  refine lv_iconst (v := 0) C.1.1 C.1.2.1 dL_online_1 (by decide) ?_
  refine lv_aload_n C.1.1 C.1.2.1 dL_online_2 rfl (lv_at hl 0 rfl) ?_
  refine lv_iload_n C.1.1 C.1.2.1 dL_online_3 rfl (lv_at hl 1 rfl) ?_
  refine lv_iload_n C.1.1 C.1.2.1 dL_online_4 rfl (lv_at hl 2 rfl) ?_
  obtain ⟨a | E0, N0⟩ := r
  · refine zh_run (rest := [.int 0, .ref o]) (N := N0) C hP hD dL_online_5 hm (zm3 89 (by decide +kernel) rfl) (zm3 90 (by decide +kernel) rfl) (zm3 91 (by decide +kernel) rfl) rfl rfl zi_X4_online rfl ⟨Nat.le_of_ble_eq_true rfl, Nat.le_of_ble_eq_true rfl⟩ hl rfl (Nat.le_of_ble_eq_true rfl) ⟨Nat.le_of_ble_eq_true rfl, Nat.le_of_ble_eq_true rfl⟩ (fun E N' h => by cases h) (fun r N' H1 locs1 h hP1 hS1 => ?_)
    cases h
    refine lv_i2l C.1.1 C.1.2.1 dL_online_8 rfl ?_
    exact zh_store (pE := 21) C hP1 hD hS1 dL_online_9 dL_online_10 (by decide) dL_online_21 rfl dL_online_22 rfl ⟨by omega, by omega⟩
  · refine zh_run (rest := [.int 0, .ref o]) (N := N0) C hP hD dL_online_5 hm (zm3 89 (by decide +kernel) rfl) (zm3 90 (by decide +kernel) rfl) (zm3 91 (by decide +kernel) rfl) rfl rfl zi_X4_online rfl ⟨Nat.le_of_ble_eq_true rfl, Nat.le_of_ble_eq_true rfl⟩ hl rfl (Nat.le_of_ble_eq_true rfl) ⟨Nat.le_of_ble_eq_true rfl, Nat.le_of_ble_eq_true rfl⟩ (fun E N' h => ?_) (fun r N' H1 locs1 h hP1 hS1 => by cases h)
    cases h
    rcases ht _ rfl with hE | hE
    · subst hE
      exact ⟨⟨13, ⟨[], [(0, 10, 17, 25)], 0, 10, 13, rfl, ⟨by decide, by decide⟩, by decide, (zm1 231 (by decide +kernel) rfl), List.mem_of_getElem? (i := 0) rfl, fun z hz => absurd hz List.not_mem_nil⟩, ⟨1, (show Int32.ofInt 1 = cE "java/lang/IllegalArgumentException" by decide), Or.inl ⟨4, by decide, dL_online_13, dL_online_15, dL_online_16⟩⟩⟩, rfl, rfl⟩
    · subst hE
      exact ⟨⟨17, ⟨[(0, 10, 13, 13)], [], 0, 10, 25, rfl, ⟨by decide, by decide⟩, by decide, (zm2 110 (by decide +kernel) rfl), List.mem_of_getElem? (i := 1) rfl, fun z hz => by cases List.mem_singleton.mp hz; exact ⟨by decide, (zm1 231 (by decide +kernel) rfl), Or.inl rfl⟩⟩, ⟨2, (show Int32.ofInt 2 = cE "java/lang/IllegalStateException" by decide), Or.inl ⟨4, by decide, dL_online_17, dL_online_19, dL_online_20⟩⟩⟩, rfl, rfl⟩
theorem dL_spoil_0 : decode cL_spoil 0 = .ok (.aload 4, 2) := by decide +kernel
theorem dL_spoil_2 : decode cL_spoil 2 = .ok (.iconst 0, 1) := by decide +kernel
theorem dL_spoil_3 : decode cL_spoil 3 = .ok (.aload_n 0, 1) := by decide +kernel
theorem dL_spoil_4 : decode cL_spoil 4 = .ok (.iload_n 1, 1) := by decide +kernel
theorem dL_spoil_5 : decode cL_spoil 5 = .ok (.iload_n 2, 1) := by decide +kernel
theorem dL_spoil_6 : decode cL_spoil 6 = .ok (.iload_n 3, 1) := by decide +kernel
theorem dL_spoil_7 : decode cL_spoil 7 = .ok (.invokevirtual 46, 3) := by decide +kernel
theorem dL_spoil_10 : decode cL_spoil 10 = .ok (.ifCond .eq 7, 3) := by decide +kernel
theorem dL_spoil_13 : decode cL_spoil 13 = .ok (.lconst 1, 1) := by decide +kernel
theorem dL_spoil_14 : decode cL_spoil 14 = .ok (.goto 4, 3) := by decide +kernel
theorem dL_spoil_17 : decode cL_spoil 17 = .ok (.lconst 0, 1) := by decide +kernel
theorem dL_spoil_18 : decode cL_spoil 18 = .ok (.lastore, 1) := by decide +kernel
theorem dL_spoil_19 : decode cL_spoil 19 = .ok (.goto 11, 3) := by decide +kernel
theorem dL_spoil_22 : decode cL_spoil 22 = .ok (.astore 5, 2) := by decide +kernel
theorem dL_spoil_24 : decode cL_spoil 24 = .ok (.iconst 1, 1) := by decide +kernel
theorem dL_spoil_25 : decode cL_spoil 25 = .ok (.ireturn, 1) := by decide +kernel
theorem dL_spoil_26 : decode cL_spoil 26 = .ok (.astore 5, 2) := by decide +kernel
theorem dL_spoil_28 : decode cL_spoil 28 = .ok (.iconst 2, 1) := by decide +kernel
theorem dL_spoil_29 : decode cL_spoil 29 = .ok (.ireturn, 1) := by decide +kernel
theorem dL_spoil_30 : decode cL_spoil 30 = .ok (.iconst 0, 1) := by decide +kernel
theorem dL_spoil_31 : decode cL_spoil 31 = .ok (.ireturn, 1) := by decide +kernel
abbrev mL_spoil : MI := (yL_spoil, cL_spoil, 6, some .int, 8, 200)
def hL_spoil : List (Nat × Nat × Nat × Nat) := [(0, 19, 22, 13), (0, 19, 26, 25)]
theorem zi_L_spoil : zinH mL_spoil hL_spoil 5 := ⟨zm3 119 (by decide +kernel) rfl, (zm1 0 (by decide +kernel) rfl), ⟨by decide, by decide⟩, by decide +kernel⟩
set_option maxRecDepth 100000 in
set_option maxHeartbeats 4000000 in
theorem w_spoil (q : ZQ) (hq : q.1.stackTraces = false) (o : Nat) (cL : ClassId) (p1 p2 p3 : Int32) (M : Mem) (v : Int64) : Zh (zgX q) mL_spoil hL_spoil o cL [.ref (q.2.2.2 0), .int p1, .int p2, .int p3, .ref o] M v (wk cE ((f_X4_spoil p1 p2 p3 M).1)) ((f_X4_spoil p1 p2 p3 M).2) (wv bL v ((f_X4_spoil p1 p2 p3 M).1)) := by
  have hm := k_X4_spoil q hq p1 p2 p3 M
  have ht : ∀ e : String, (f_X4_spoil p1 p2 p3 M).1 = .inr e → e = "java/lang/IllegalArgumentException" ∨ e = "java/lang/IllegalStateException" := fun e h => t_spoil h
  revert hm ht
  generalize f_X4_spoil p1 p2 p3 M = r
  intro hm ht
  refine Zh.of (by decide) rfl zi_L_spoil rfl (Nat.le_of_ble_eq_true rfl) (fun p e s m below meth c ls C hP hD hl => ?_)
  have hl : lv_has ls 6 [(0, .ref (q.2.2.2 0)), (1, .int p1), (2, .int p2), (3, .int p3), (4, .ref o)] := hl
  refine lv_aload C.1.1 C.1.2.1 dL_spoil_0 (lv_at hl 4 rfl) ?_
  refine lv_iconst (v := 0) C.1.1 C.1.2.1 dL_spoil_2 (by decide) ?_
  refine lv_aload_n C.1.1 C.1.2.1 dL_spoil_3 rfl (lv_at hl 0 rfl) ?_
  refine lv_iload_n C.1.1 C.1.2.1 dL_spoil_4 rfl (lv_at hl 1 rfl) ?_
  refine lv_iload_n C.1.1 C.1.2.1 dL_spoil_5 rfl (lv_at hl 2 rfl) ?_
  refine lv_iload_n C.1.1 C.1.2.1 dL_spoil_6 rfl (lv_at hl 3 rfl) ?_
  obtain ⟨a | E0, N0⟩ := r
  · refine zh_run (rest := [.int 0, .ref o]) (N := N0) C hP hD dL_spoil_7 hm (zm3 120 (by decide +kernel) rfl) (zm3 121 (by decide +kernel) rfl) (zm3 122 (by decide +kernel) rfl) rfl rfl zi_X4_spoil rfl ⟨Nat.le_of_ble_eq_true rfl, Nat.le_of_ble_eq_true rfl⟩ hl rfl (Nat.le_of_ble_eq_true rfl) ⟨Nat.le_of_ble_eq_true rfl, Nat.le_of_ble_eq_true rfl⟩ (fun E N' h => by cases h) (fun r N' H1 locs1 h hP1 hS1 => ?_)
    cases h
    cases a with
    | true =>
      refine lv_if_eq (tgt := 17) C.1.1 C.1.2.1 dL_spoil_10 (by decide) (fun h => absurd h (by decide)) (fun _ => ?_)
      refine lv_lconst (v := 1) C.1.1 C.1.2.1 dL_spoil_13 (by decide) ?_
      refine lv_goto (tgt := 18) C.1.1 C.1.2.1 dL_spoil_14 (by decide) ?_
      exact zh_store (pE := 30) C hP1 hD hS1 dL_spoil_18 dL_spoil_19 (by decide) dL_spoil_30 rfl dL_spoil_31 rfl ⟨by omega, by omega⟩
    | false =>
      refine lv_if_eq (tgt := 17) C.1.1 C.1.2.1 dL_spoil_10 (by decide) (fun _ => ?_) (fun h => absurd (show (0 : Int32) = 0 from rfl) h)
      refine lv_lconst (v := 0) C.1.1 C.1.2.1 dL_spoil_17 (by decide) ?_
      exact zh_store (pE := 30) C hP1 hD hS1 dL_spoil_18 dL_spoil_19 (by decide) dL_spoil_30 rfl dL_spoil_31 rfl ⟨by omega, by omega⟩
  · refine zh_run (rest := [.int 0, .ref o]) (N := N0) C hP hD dL_spoil_7 hm (zm3 120 (by decide +kernel) rfl) (zm3 121 (by decide +kernel) rfl) (zm3 122 (by decide +kernel) rfl) rfl rfl zi_X4_spoil rfl ⟨Nat.le_of_ble_eq_true rfl, Nat.le_of_ble_eq_true rfl⟩ hl rfl (Nat.le_of_ble_eq_true rfl) ⟨Nat.le_of_ble_eq_true rfl, Nat.le_of_ble_eq_true rfl⟩ (fun E N' h => ?_) (fun r N' H1 locs1 h hP1 hS1 => by cases h)
    cases h
    rcases ht _ rfl with hE | hE
    · subst hE
      exact ⟨⟨22, ⟨[], [(0, 19, 26, 25)], 0, 19, 13, rfl, ⟨by decide, by decide⟩, by decide, (zm1 231 (by decide +kernel) rfl), List.mem_of_getElem? (i := 0) rfl, fun z hz => absurd hz List.not_mem_nil⟩, ⟨1, (show Int32.ofInt 1 = cE "java/lang/IllegalArgumentException" by decide), Or.inl ⟨5, by decide, dL_spoil_22, dL_spoil_24, dL_spoil_25⟩⟩⟩, rfl, rfl⟩
    · subst hE
      exact ⟨⟨26, ⟨[(0, 19, 22, 13)], [], 0, 19, 25, rfl, ⟨by decide, by decide⟩, by decide, (zm2 110 (by decide +kernel) rfl), List.mem_of_getElem? (i := 1) rfl, fun z hz => by cases List.mem_singleton.mp hz; exact ⟨by decide, (zm1 231 (by decide +kernel) rfl), Or.inl rfl⟩⟩, ⟨2, (show Int32.ofInt 2 = cE "java/lang/IllegalStateException" by decide), Or.inl ⟨5, by decide, dL_spoil_26, dL_spoil_28, dL_spoil_29⟩⟩⟩, rfl, rfl⟩
theorem dL_isSpoilt_0 : decode cL_isSpoilt 0 = .ok (.aload 4, 2) := by decide +kernel
theorem dL_isSpoilt_2 : decode cL_isSpoilt 2 = .ok (.iconst 0, 1) := by decide +kernel
theorem dL_isSpoilt_3 : decode cL_isSpoilt 3 = .ok (.aload_n 0, 1) := by decide +kernel
theorem dL_isSpoilt_4 : decode cL_isSpoilt 4 = .ok (.iload_n 1, 1) := by decide +kernel
theorem dL_isSpoilt_5 : decode cL_isSpoilt 5 = .ok (.iload_n 2, 1) := by decide +kernel
theorem dL_isSpoilt_6 : decode cL_isSpoilt 6 = .ok (.iload_n 3, 1) := by decide +kernel
theorem dL_isSpoilt_7 : decode cL_isSpoilt 7 = .ok (.invokevirtual 50, 3) := by decide +kernel
theorem dL_isSpoilt_10 : decode cL_isSpoilt 10 = .ok (.ifCond .eq 7, 3) := by decide +kernel
theorem dL_isSpoilt_13 : decode cL_isSpoilt 13 = .ok (.lconst 1, 1) := by decide +kernel
theorem dL_isSpoilt_14 : decode cL_isSpoilt 14 = .ok (.goto 4, 3) := by decide +kernel
theorem dL_isSpoilt_17 : decode cL_isSpoilt 17 = .ok (.lconst 0, 1) := by decide +kernel
theorem dL_isSpoilt_18 : decode cL_isSpoilt 18 = .ok (.lastore, 1) := by decide +kernel
theorem dL_isSpoilt_19 : decode cL_isSpoilt 19 = .ok (.goto 11, 3) := by decide +kernel
theorem dL_isSpoilt_22 : decode cL_isSpoilt 22 = .ok (.astore 5, 2) := by decide +kernel
theorem dL_isSpoilt_24 : decode cL_isSpoilt 24 = .ok (.iconst 1, 1) := by decide +kernel
theorem dL_isSpoilt_25 : decode cL_isSpoilt 25 = .ok (.ireturn, 1) := by decide +kernel
theorem dL_isSpoilt_26 : decode cL_isSpoilt 26 = .ok (.astore 5, 2) := by decide +kernel
theorem dL_isSpoilt_28 : decode cL_isSpoilt 28 = .ok (.iconst 2, 1) := by decide +kernel
theorem dL_isSpoilt_29 : decode cL_isSpoilt 29 = .ok (.ireturn, 1) := by decide +kernel
theorem dL_isSpoilt_30 : decode cL_isSpoilt 30 = .ok (.iconst 0, 1) := by decide +kernel
theorem dL_isSpoilt_31 : decode cL_isSpoilt 31 = .ok (.ireturn, 1) := by decide +kernel
abbrev mL_isSpoilt : MI := (yL_isSpoilt, cL_isSpoilt, 6, some .int, 8, 200)
def hL_isSpoilt : List (Nat × Nat × Nat × Nat) := [(0, 19, 22, 13), (0, 19, 26, 25)]
theorem zi_L_isSpoilt : zinH mL_isSpoilt hL_isSpoilt 5 := ⟨zm3 132 (by decide +kernel) rfl, (zm1 0 (by decide +kernel) rfl), ⟨by decide, by decide⟩, by decide +kernel⟩
set_option maxRecDepth 100000 in
set_option maxHeartbeats 4000000 in
theorem w_isSpoilt (q : ZQ) (hq : q.1.stackTraces = false) (o : Nat) (cL : ClassId) (p1 p2 p3 : Int32) (M : Mem) (v : Int64) : Zh (zgX q) mL_isSpoilt hL_isSpoilt o cL [.ref (q.2.2.2 0), .int p1, .int p2, .int p3, .ref o] M v (wk cE (f_X4_isSpoilt p1 p2 p3 M)) M (wv bL v (f_X4_isSpoilt p1 p2 p3 M)) := by
  have hm := k_X4_isSpoilt q hq p1 p2 p3 M
  have ht : ∀ e : String, f_X4_isSpoilt p1 p2 p3 M = .inr e → e = "java/lang/IllegalArgumentException" ∨ e = "java/lang/IllegalStateException" := fun e h => t_isSpoilt h
  revert hm ht
  generalize f_X4_isSpoilt p1 p2 p3 M = r
  intro hm ht
  refine Zh.of (by decide) rfl zi_L_isSpoilt rfl (Nat.le_of_ble_eq_true rfl) (fun p e s m below meth c ls C hP hD hl => ?_)
  have hl : lv_has ls 6 [(0, .ref (q.2.2.2 0)), (1, .int p1), (2, .int p2), (3, .int p3), (4, .ref o)] := hl
  refine lv_aload C.1.1 C.1.2.1 dL_isSpoilt_0 (lv_at hl 4 rfl) ?_
  refine lv_iconst (v := 0) C.1.1 C.1.2.1 dL_isSpoilt_2 (by decide) ?_
  refine lv_aload_n C.1.1 C.1.2.1 dL_isSpoilt_3 rfl (lv_at hl 0 rfl) ?_
  refine lv_iload_n C.1.1 C.1.2.1 dL_isSpoilt_4 rfl (lv_at hl 1 rfl) ?_
  refine lv_iload_n C.1.1 C.1.2.1 dL_isSpoilt_5 rfl (lv_at hl 2 rfl) ?_
  refine lv_iload_n C.1.1 C.1.2.1 dL_isSpoilt_6 rfl (lv_at hl 3 rfl) ?_
  obtain a | E0 := r
  · refine zh_run (rest := [.int 0, .ref o]) (N := M) C hP hD dL_isSpoilt_7 hm (zm3 133 (by decide +kernel) rfl) (zm3 134 (by decide +kernel) rfl) (zm3 135 (by decide +kernel) rfl) rfl rfl zi_X4_isSpoilt rfl ⟨Nat.le_of_ble_eq_true rfl, Nat.le_of_ble_eq_true rfl⟩ hl rfl (Nat.le_of_ble_eq_true rfl) ⟨Nat.le_of_ble_eq_true rfl, Nat.le_of_ble_eq_true rfl⟩ (fun E N' h => by cases h) (fun r N' H1 locs1 h hP1 hS1 => ?_)
    cases h
    cases a with
    | true =>
      refine lv_if_eq (tgt := 17) C.1.1 C.1.2.1 dL_isSpoilt_10 (by decide) (fun h => absurd h (by decide)) (fun _ => ?_)
      refine lv_lconst (v := 1) C.1.1 C.1.2.1 dL_isSpoilt_13 (by decide) ?_
      refine lv_goto (tgt := 18) C.1.1 C.1.2.1 dL_isSpoilt_14 (by decide) ?_
      exact zh_store (pE := 30) C hP1 hD hS1 dL_isSpoilt_18 dL_isSpoilt_19 (by decide) dL_isSpoilt_30 rfl dL_isSpoilt_31 rfl ⟨by omega, by omega⟩
    | false =>
      refine lv_if_eq (tgt := 17) C.1.1 C.1.2.1 dL_isSpoilt_10 (by decide) (fun _ => ?_) (fun h => absurd (show (0 : Int32) = 0 from rfl) h)
      refine lv_lconst (v := 0) C.1.1 C.1.2.1 dL_isSpoilt_17 (by decide) ?_
      exact zh_store (pE := 30) C hP1 hD hS1 dL_isSpoilt_18 dL_isSpoilt_19 (by decide) dL_isSpoilt_30 rfl dL_isSpoilt_31 rfl ⟨by omega, by omega⟩
  · refine zh_run (rest := [.int 0, .ref o]) (N := M) C hP hD dL_isSpoilt_7 hm (zm3 133 (by decide +kernel) rfl) (zm3 134 (by decide +kernel) rfl) (zm3 135 (by decide +kernel) rfl) rfl rfl zi_X4_isSpoilt rfl ⟨Nat.le_of_ble_eq_true rfl, Nat.le_of_ble_eq_true rfl⟩ hl rfl (Nat.le_of_ble_eq_true rfl) ⟨Nat.le_of_ble_eq_true rfl, Nat.le_of_ble_eq_true rfl⟩ (fun E N' h => ?_) (fun r N' H1 locs1 h hP1 hS1 => by cases h)
    cases h
    rcases ht _ rfl with hE | hE
    · subst hE
      exact ⟨⟨22, ⟨[], [(0, 19, 26, 25)], 0, 19, 13, rfl, ⟨by decide, by decide⟩, by decide, (zm1 231 (by decide +kernel) rfl), List.mem_of_getElem? (i := 0) rfl, fun z hz => absurd hz List.not_mem_nil⟩, ⟨1, (show Int32.ofInt 1 = cE "java/lang/IllegalArgumentException" by decide), Or.inl ⟨5, by decide, dL_isSpoilt_22, dL_isSpoilt_24, dL_isSpoilt_25⟩⟩⟩, rfl, rfl⟩
    · subst hE
      exact ⟨⟨26, ⟨[(0, 19, 22, 13)], [], 0, 19, 25, rfl, ⟨by decide, by decide⟩, by decide, (zm2 110 (by decide +kernel) rfl), List.mem_of_getElem? (i := 1) rfl, fun z hz => by cases List.mem_singleton.mp hz; exact ⟨by decide, (zm1 231 (by decide +kernel) rfl), Or.inl rfl⟩⟩, ⟨2, (show Int32.ofInt 2 = cE "java/lang/IllegalStateException" by decide), Or.inl ⟨5, by decide, dL_isSpoilt_26, dL_isSpoilt_28, dL_isSpoilt_29⟩⟩⟩, rfl, rfl⟩
theorem dL_isFree_0 : decode cL_isFree 0 = .ok (.aload_n 3, 1) := by decide +kernel
theorem dL_isFree_1 : decode cL_isFree 1 = .ok (.iconst 0, 1) := by decide +kernel
theorem dL_isFree_2 : decode cL_isFree 2 = .ok (.aload_n 0, 1) := by decide +kernel
theorem dL_isFree_3 : decode cL_isFree 3 = .ok (.iload_n 1, 1) := by decide +kernel
theorem dL_isFree_4 : decode cL_isFree 4 = .ok (.iload_n 2, 1) := by decide +kernel
theorem dL_isFree_5 : decode cL_isFree 5 = .ok (.invokevirtual 53, 3) := by decide +kernel
theorem dL_isFree_8 : decode cL_isFree 8 = .ok (.ifCond .eq 7, 3) := by decide +kernel
theorem dL_isFree_11 : decode cL_isFree 11 = .ok (.lconst 1, 1) := by decide +kernel
theorem dL_isFree_12 : decode cL_isFree 12 = .ok (.goto 4, 3) := by decide +kernel
theorem dL_isFree_15 : decode cL_isFree 15 = .ok (.lconst 0, 1) := by decide +kernel
theorem dL_isFree_16 : decode cL_isFree 16 = .ok (.lastore, 1) := by decide +kernel
theorem dL_isFree_17 : decode cL_isFree 17 = .ok (.goto 7, 3) := by decide +kernel
theorem dL_isFree_20 : decode cL_isFree 20 = .ok (.astore 4, 2) := by decide +kernel
theorem dL_isFree_22 : decode cL_isFree 22 = .ok (.iconst 1, 1) := by decide +kernel
theorem dL_isFree_23 : decode cL_isFree 23 = .ok (.ireturn, 1) := by decide +kernel
theorem dL_isFree_24 : decode cL_isFree 24 = .ok (.iconst 0, 1) := by decide +kernel
theorem dL_isFree_25 : decode cL_isFree 25 = .ok (.ireturn, 1) := by decide +kernel
abbrev mL_isFree : MI := (yL_isFree, cL_isFree, 5, some .int, 8, 200)
def hL_isFree : List (Nat × Nat × Nat × Nat) := [(0, 17, 20, 13)]
theorem zi_L_isFree : zinH mL_isFree hL_isFree 4 := ⟨zm3 140 (by decide +kernel) rfl, (zm1 0 (by decide +kernel) rfl), ⟨by decide, by decide⟩, by decide +kernel⟩
set_option maxRecDepth 100000 in
set_option maxHeartbeats 4000000 in
theorem w_isFree (q : ZQ) (hq : q.1.stackTraces = false) (o : Nat) (cL : ClassId) (p1 p2 : Int32) (M : Mem) (v : Int64) : Zh (zgX q) mL_isFree hL_isFree o cL [.ref (q.2.2.2 0), .int p1, .int p2, .ref o] M v (wk cE (f_X4_isFree p1 p2 M)) M (wv bL v (f_X4_isFree p1 p2 M)) := by
  have hm := k_X4_isFree q hq p1 p2 M
  have ht : ∀ e : String, f_X4_isFree p1 p2 M = .inr e → e = "java/lang/IllegalArgumentException" := fun e h => t_isFree h
  revert hm ht
  generalize f_X4_isFree p1 p2 M = r
  intro hm ht
  refine Zh.of (by decide) rfl zi_L_isFree rfl (Nat.le_of_ble_eq_true rfl) (fun p e s m below meth c ls C hP hD hl => ?_)
  have hl : lv_has ls 5 [(0, .ref (q.2.2.2 0)), (1, .int p1), (2, .int p2), (3, .ref o)] := hl
  refine lv_aload_n C.1.1 C.1.2.1 dL_isFree_0 rfl (lv_at hl 3 rfl) ?_
  refine lv_iconst (v := 0) C.1.1 C.1.2.1 dL_isFree_1 (by decide) ?_
  refine lv_aload_n C.1.1 C.1.2.1 dL_isFree_2 rfl (lv_at hl 0 rfl) ?_
  refine lv_iload_n C.1.1 C.1.2.1 dL_isFree_3 rfl (lv_at hl 1 rfl) ?_
  refine lv_iload_n C.1.1 C.1.2.1 dL_isFree_4 rfl (lv_at hl 2 rfl) ?_
  obtain a | E0 := r
  · refine zh_run (rest := [.int 0, .ref o]) (N := M) C hP hD dL_isFree_5 hm (zm3 141 (by decide +kernel) rfl) (zm3 142 (by decide +kernel) rfl) (zm3 143 (by decide +kernel) rfl) rfl rfl zi_X4_isFree rfl ⟨Nat.le_of_ble_eq_true rfl, Nat.le_of_ble_eq_true rfl⟩ hl rfl (Nat.le_of_ble_eq_true rfl) ⟨Nat.le_of_ble_eq_true rfl, Nat.le_of_ble_eq_true rfl⟩ (fun E N' h => by cases h) (fun r N' H1 locs1 h hP1 hS1 => ?_)
    cases h
    cases a with
    | true =>
      refine lv_if_eq (tgt := 15) C.1.1 C.1.2.1 dL_isFree_8 (by decide) (fun h => absurd h (by decide)) (fun _ => ?_)
      refine lv_lconst (v := 1) C.1.1 C.1.2.1 dL_isFree_11 (by decide) ?_
      refine lv_goto (tgt := 16) C.1.1 C.1.2.1 dL_isFree_12 (by decide) ?_
      exact zh_store (pE := 24) C hP1 hD hS1 dL_isFree_16 dL_isFree_17 (by decide) dL_isFree_24 rfl dL_isFree_25 rfl ⟨by omega, by omega⟩
    | false =>
      refine lv_if_eq (tgt := 15) C.1.1 C.1.2.1 dL_isFree_8 (by decide) (fun _ => ?_) (fun h => absurd (show (0 : Int32) = 0 from rfl) h)
      refine lv_lconst (v := 0) C.1.1 C.1.2.1 dL_isFree_15 (by decide) ?_
      exact zh_store (pE := 24) C hP1 hD hS1 dL_isFree_16 dL_isFree_17 (by decide) dL_isFree_24 rfl dL_isFree_25 rfl ⟨by omega, by omega⟩
  · refine zh_run (rest := [.int 0, .ref o]) (N := M) C hP hD dL_isFree_5 hm (zm3 141 (by decide +kernel) rfl) (zm3 142 (by decide +kernel) rfl) (zm3 143 (by decide +kernel) rfl) rfl rfl zi_X4_isFree rfl ⟨Nat.le_of_ble_eq_true rfl, Nat.le_of_ble_eq_true rfl⟩ hl rfl (Nat.le_of_ble_eq_true rfl) ⟨Nat.le_of_ble_eq_true rfl, Nat.le_of_ble_eq_true rfl⟩ (fun E N' h => ?_) (fun r N' H1 locs1 h hP1 hS1 => by cases h)
    cases h
    have hE := ht _ rfl
    subst hE
    exact ⟨⟨20, ⟨[], [], 0, 17, 13, rfl, ⟨by decide, by decide⟩, by decide, (zm1 231 (by decide +kernel) rfl), List.mem_of_getElem? (i := 0) rfl, fun z hz => absurd hz List.not_mem_nil⟩, ⟨1, (show Int32.ofInt 1 = cE "java/lang/IllegalArgumentException" by decide), Or.inl ⟨4, by decide, dL_isFree_20, dL_isFree_22, dL_isFree_23⟩⟩⟩, rfl, rfl⟩
theorem dL_free_0 : decode cL_free 0 = .ok (.aload_n 2, 1) := by decide +kernel
theorem dL_free_1 : decode cL_free 1 = .ok (.iconst 0, 1) := by decide +kernel
theorem dL_free_2 : decode cL_free 2 = .ok (.aload_n 0, 1) := by decide +kernel
theorem dL_free_3 : decode cL_free 3 = .ok (.iload_n 1, 1) := by decide +kernel
theorem dL_free_4 : decode cL_free 4 = .ok (.invokevirtual 57, 3) := by decide +kernel
theorem dL_free_7 : decode cL_free 7 = .ok (.i2l, 1) := by decide +kernel
theorem dL_free_8 : decode cL_free 8 = .ok (.lastore, 1) := by decide +kernel
theorem dL_free_9 : decode cL_free 9 = .ok (.goto 6, 3) := by decide +kernel
theorem dL_free_12 : decode cL_free 12 = .ok (.astore_n 3, 1) := by decide +kernel
theorem dL_free_13 : decode cL_free 13 = .ok (.iconst 1, 1) := by decide +kernel
theorem dL_free_14 : decode cL_free 14 = .ok (.ireturn, 1) := by decide +kernel
theorem dL_free_15 : decode cL_free 15 = .ok (.iconst 0, 1) := by decide +kernel
theorem dL_free_16 : decode cL_free 16 = .ok (.ireturn, 1) := by decide +kernel
abbrev mL_free : MI := (yL_free, cL_free, 4, some .int, 8, 200)
def hL_free : List (Nat × Nat × Nat × Nat) := [(0, 9, 12, 13)]
theorem zi_L_free : zinH mL_free hL_free 3 := ⟨zm3 149 (by decide +kernel) rfl, (zm1 0 (by decide +kernel) rfl), ⟨by decide, by decide⟩, by decide +kernel⟩
set_option maxRecDepth 100000 in
set_option maxHeartbeats 4000000 in
theorem w_free (q : ZQ) (hq : q.1.stackTraces = false) (o : Nat) (cL : ClassId) (p1 : Int32) (M : Mem) (v : Int64) : Zh (zgX q) mL_free hL_free o cL [.ref (q.2.2.2 0), .int p1, .ref o] M v (wk cE (f_X4_free p1 M)) M (wv Int32.toInt64 v (f_X4_free p1 M)) := by
  have hm := k_X4_free q hq p1 M
  have ht : ∀ e : String, f_X4_free p1 M = .inr e → e = "java/lang/IllegalArgumentException" := fun e h => t_free h
  revert hm ht
  generalize f_X4_free p1 M = r
  intro hm ht
  refine Zh.of (by decide) rfl zi_L_free rfl (Nat.le_of_ble_eq_true rfl) (fun p e s m below meth c ls C hP hD hl => ?_)
  have hl : lv_has ls 4 [(0, .ref (q.2.2.2 0)), (1, .int p1), (2, .ref o)] := hl
  refine lv_aload_n C.1.1 C.1.2.1 dL_free_0 rfl (lv_at hl 2 rfl) ?_
  refine lv_iconst (v := 0) C.1.1 C.1.2.1 dL_free_1 (by decide) ?_
  refine lv_aload_n C.1.1 C.1.2.1 dL_free_2 rfl (lv_at hl 0 rfl) ?_
  refine lv_iload_n C.1.1 C.1.2.1 dL_free_3 rfl (lv_at hl 1 rfl) ?_
  obtain a | E0 := r
  · refine zh_run (rest := [.int 0, .ref o]) (N := M) C hP hD dL_free_4 hm (zm3 150 (by decide +kernel) rfl) (zm3 151 (by decide +kernel) rfl) (zm3 152 (by decide +kernel) rfl) rfl rfl zi_X4_free rfl ⟨Nat.le_of_ble_eq_true rfl, Nat.le_of_ble_eq_true rfl⟩ hl rfl (Nat.le_of_ble_eq_true rfl) ⟨Nat.le_of_ble_eq_true rfl, Nat.le_of_ble_eq_true rfl⟩ (fun E N' h => by cases h) (fun r N' H1 locs1 h hP1 hS1 => ?_)
    cases h
    refine lv_i2l C.1.1 C.1.2.1 dL_free_7 rfl ?_
    exact zh_store (pE := 15) C hP1 hD hS1 dL_free_8 dL_free_9 (by decide) dL_free_15 rfl dL_free_16 rfl ⟨by omega, by omega⟩
  · refine zh_run (rest := [.int 0, .ref o]) (N := M) C hP hD dL_free_4 hm (zm3 150 (by decide +kernel) rfl) (zm3 151 (by decide +kernel) rfl) (zm3 152 (by decide +kernel) rfl) rfl rfl zi_X4_free rfl ⟨Nat.le_of_ble_eq_true rfl, Nat.le_of_ble_eq_true rfl⟩ hl rfl (Nat.le_of_ble_eq_true rfl) ⟨Nat.le_of_ble_eq_true rfl, Nat.le_of_ble_eq_true rfl⟩ (fun E N' h => ?_) (fun r N' H1 locs1 h hP1 hS1 => by cases h)
    cases h
    have hE := ht _ rfl
    subst hE
    exact ⟨⟨12, ⟨[], [], 0, 9, 13, rfl, ⟨by decide, by decide⟩, by decide, (zm1 231 (by decide +kernel) rfl), List.mem_of_getElem? (i := 0) rfl, fun z hz => absurd hz List.not_mem_nil⟩, ⟨1, (show Int32.ofInt 1 = cE "java/lang/IllegalArgumentException" by decide), Or.inr ⟨3, by decide, dL_free_12, dL_free_13, dL_free_14⟩⟩⟩, rfl, rfl⟩
theorem dL_places_0 : decode cL_places 0 = .ok (.aload_n 3, 1) := by decide +kernel
theorem dL_places_1 : decode cL_places 1 = .ok (.iconst 0, 1) := by decide +kernel
theorem dL_places_2 : decode cL_places 2 = .ok (.aload_n 0, 1) := by decide +kernel
theorem dL_places_3 : decode cL_places 3 = .ok (.iload_n 1, 1) := by decide +kernel
theorem dL_places_4 : decode cL_places 4 = .ok (.iload_n 2, 1) := by decide +kernel
theorem dL_places_5 : decode cL_places 5 = .ok (.invokevirtual 61, 3) := by decide +kernel
theorem dL_places_8 : decode cL_places 8 = .ok (.i2l, 1) := by decide +kernel
theorem dL_places_9 : decode cL_places 9 = .ok (.lastore, 1) := by decide +kernel
theorem dL_places_10 : decode cL_places 10 = .ok (.goto 7, 3) := by decide +kernel
theorem dL_places_13 : decode cL_places 13 = .ok (.astore 4, 2) := by decide +kernel
theorem dL_places_15 : decode cL_places 15 = .ok (.iconst 1, 1) := by decide +kernel
theorem dL_places_16 : decode cL_places 16 = .ok (.ireturn, 1) := by decide +kernel
theorem dL_places_17 : decode cL_places 17 = .ok (.iconst 0, 1) := by decide +kernel
theorem dL_places_18 : decode cL_places 18 = .ok (.ireturn, 1) := by decide +kernel
abbrev mL_places : MI := (yL_places, cL_places, 5, some .int, 8, 200)
def hL_places : List (Nat × Nat × Nat × Nat) := [(0, 10, 13, 13)]
theorem zi_L_places : zinH mL_places hL_places 4 := ⟨zm3 158 (by decide +kernel) rfl, (zm1 0 (by decide +kernel) rfl), ⟨by decide, by decide⟩, by decide +kernel⟩
set_option maxRecDepth 100000 in
set_option maxHeartbeats 4000000 in
theorem w_places (q : ZQ) (hq : q.1.stackTraces = false) (o : Nat) (cL : ClassId) (p1 p2 : Int32) (M : Mem) (v : Int64) : Zh (zgX q) mL_places hL_places o cL [.ref (q.2.2.2 0), .int p1, .int p2, .ref o] M v (wk cE (f_X4_places p1 p2 M)) M (wv Int32.toInt64 v (f_X4_places p1 p2 M)) := by
  have hm := k_X4_places q hq p1 p2 M
  have ht : ∀ e : String, f_X4_places p1 p2 M = .inr e → e = "java/lang/IllegalArgumentException" := fun e h => t_places h
  revert hm ht
  generalize f_X4_places p1 p2 M = r
  intro hm ht
  refine Zh.of (by decide) rfl zi_L_places rfl (Nat.le_of_ble_eq_true rfl) (fun p e s m below meth c ls C hP hD hl => ?_)
  have hl : lv_has ls 5 [(0, .ref (q.2.2.2 0)), (1, .int p1), (2, .int p2), (3, .ref o)] := hl
  refine lv_aload_n C.1.1 C.1.2.1 dL_places_0 rfl (lv_at hl 3 rfl) ?_
  refine lv_iconst (v := 0) C.1.1 C.1.2.1 dL_places_1 (by decide) ?_
  refine lv_aload_n C.1.1 C.1.2.1 dL_places_2 rfl (lv_at hl 0 rfl) ?_
  refine lv_iload_n C.1.1 C.1.2.1 dL_places_3 rfl (lv_at hl 1 rfl) ?_
  refine lv_iload_n C.1.1 C.1.2.1 dL_places_4 rfl (lv_at hl 2 rfl) ?_
  obtain a | E0 := r
  · refine zh_run (rest := [.int 0, .ref o]) (N := M) C hP hD dL_places_5 hm (zm3 159 (by decide +kernel) rfl) (zm3 160 (by decide +kernel) rfl) (zm3 161 (by decide +kernel) rfl) rfl rfl zi_X4_places rfl ⟨Nat.le_of_ble_eq_true rfl, Nat.le_of_ble_eq_true rfl⟩ hl rfl (Nat.le_of_ble_eq_true rfl) ⟨Nat.le_of_ble_eq_true rfl, Nat.le_of_ble_eq_true rfl⟩ (fun E N' h => by cases h) (fun r N' H1 locs1 h hP1 hS1 => ?_)
    cases h
    refine lv_i2l C.1.1 C.1.2.1 dL_places_8 rfl ?_
    exact zh_store (pE := 17) C hP1 hD hS1 dL_places_9 dL_places_10 (by decide) dL_places_17 rfl dL_places_18 rfl ⟨by omega, by omega⟩
  · refine zh_run (rest := [.int 0, .ref o]) (N := M) C hP hD dL_places_5 hm (zm3 159 (by decide +kernel) rfl) (zm3 160 (by decide +kernel) rfl) (zm3 161 (by decide +kernel) rfl) rfl rfl zi_X4_places rfl ⟨Nat.le_of_ble_eq_true rfl, Nat.le_of_ble_eq_true rfl⟩ hl rfl (Nat.le_of_ble_eq_true rfl) ⟨Nat.le_of_ble_eq_true rfl, Nat.le_of_ble_eq_true rfl⟩ (fun E N' h => ?_) (fun r N' H1 locs1 h hP1 hS1 => by cases h)
    cases h
    have hE := ht _ rfl
    subst hE
    exact ⟨⟨13, ⟨[], [], 0, 10, 13, rfl, ⟨by decide, by decide⟩, by decide, (zm1 231 (by decide +kernel) rfl), List.mem_of_getElem? (i := 0) rfl, fun z hz => absurd hz List.not_mem_nil⟩, ⟨1, (show Int32.ofInt 1 = cE "java/lang/IllegalArgumentException" by decide), Or.inl ⟨4, by decide, dL_places_13, dL_places_15, dL_places_16⟩⟩⟩, rfl, rfl⟩
theorem dL_place_0 : decode cL_place 0 = .ok (.aload 4, 2) := by decide +kernel
theorem dL_place_2 : decode cL_place 2 = .ok (.iconst 0, 1) := by decide +kernel
theorem dL_place_3 : decode cL_place 3 = .ok (.aload_n 0, 1) := by decide +kernel
theorem dL_place_4 : decode cL_place 4 = .ok (.iload_n 1, 1) := by decide +kernel
theorem dL_place_5 : decode cL_place 5 = .ok (.iload_n 2, 1) := by decide +kernel
theorem dL_place_6 : decode cL_place 6 = .ok (.iload_n 3, 1) := by decide +kernel
theorem dL_place_7 : decode cL_place 7 = .ok (.invokevirtual 64, 3) := by decide +kernel
theorem dL_place_10 : decode cL_place 10 = .ok (.i2l, 1) := by decide +kernel
theorem dL_place_11 : decode cL_place 11 = .ok (.lastore, 1) := by decide +kernel
theorem dL_place_12 : decode cL_place 12 = .ok (.goto 11, 3) := by decide +kernel
theorem dL_place_15 : decode cL_place 15 = .ok (.astore 5, 2) := by decide +kernel
theorem dL_place_17 : decode cL_place 17 = .ok (.iconst 1, 1) := by decide +kernel
theorem dL_place_18 : decode cL_place 18 = .ok (.ireturn, 1) := by decide +kernel
theorem dL_place_19 : decode cL_place 19 = .ok (.astore 5, 2) := by decide +kernel
theorem dL_place_21 : decode cL_place 21 = .ok (.iconst 2, 1) := by decide +kernel
theorem dL_place_22 : decode cL_place 22 = .ok (.ireturn, 1) := by decide +kernel
theorem dL_place_23 : decode cL_place 23 = .ok (.iconst 0, 1) := by decide +kernel
theorem dL_place_24 : decode cL_place 24 = .ok (.ireturn, 1) := by decide +kernel
abbrev mL_place : MI := (yL_place, cL_place, 6, some .int, 8, 200)
def hL_place : List (Nat × Nat × Nat × Nat) := [(0, 12, 15, 13), (0, 12, 19, 30)]
theorem zi_L_place : zinH mL_place hL_place 5 := ⟨zm3 170 (by decide +kernel) rfl, (zm1 0 (by decide +kernel) rfl), ⟨by decide, by decide⟩, by decide +kernel⟩
set_option maxRecDepth 100000 in
set_option maxHeartbeats 4000000 in
theorem w_place (q : ZQ) (hq : q.1.stackTraces = false) (o : Nat) (cL : ClassId) (p1 p2 p3 : Int32) (M : Mem) (v : Int64) : Zh (zgX q) mL_place hL_place o cL [.ref (q.2.2.2 0), .int p1, .int p2, .int p3, .ref o] M v (wk cE (f_X4_place p1 p2 p3 M)) M (wv Int32.toInt64 v (f_X4_place p1 p2 p3 M)) := by
  have hm := k_X4_place q hq p1 p2 p3 M
  have ht : ∀ e : String, f_X4_place p1 p2 p3 M = .inr e → e = "java/lang/IllegalArgumentException" ∨ e = "java/util/NoSuchElementException" := fun e h => t_place h
  revert hm ht
  generalize f_X4_place p1 p2 p3 M = r
  intro hm ht
  refine Zh.of (by decide) rfl zi_L_place rfl (Nat.le_of_ble_eq_true rfl) (fun p e s m below meth c ls C hP hD hl => ?_)
  have hl : lv_has ls 6 [(0, .ref (q.2.2.2 0)), (1, .int p1), (2, .int p2), (3, .int p3), (4, .ref o)] := hl
  refine lv_aload C.1.1 C.1.2.1 dL_place_0 (lv_at hl 4 rfl) ?_
  refine lv_iconst (v := 0) C.1.1 C.1.2.1 dL_place_2 (by decide) ?_
  refine lv_aload_n C.1.1 C.1.2.1 dL_place_3 rfl (lv_at hl 0 rfl) ?_
  refine lv_iload_n C.1.1 C.1.2.1 dL_place_4 rfl (lv_at hl 1 rfl) ?_
  refine lv_iload_n C.1.1 C.1.2.1 dL_place_5 rfl (lv_at hl 2 rfl) ?_
  refine lv_iload_n C.1.1 C.1.2.1 dL_place_6 rfl (lv_at hl 3 rfl) ?_
  obtain a | E0 := r
  · refine zh_run (rest := [.int 0, .ref o]) (N := M) C hP hD dL_place_7 hm (zm3 171 (by decide +kernel) rfl) (zm3 172 (by decide +kernel) rfl) (zm3 173 (by decide +kernel) rfl) rfl rfl zi_X4_place rfl ⟨Nat.le_of_ble_eq_true rfl, Nat.le_of_ble_eq_true rfl⟩ hl rfl (Nat.le_of_ble_eq_true rfl) ⟨Nat.le_of_ble_eq_true rfl, Nat.le_of_ble_eq_true rfl⟩ (fun E N' h => by cases h) (fun r N' H1 locs1 h hP1 hS1 => ?_)
    cases h
    refine lv_i2l C.1.1 C.1.2.1 dL_place_10 rfl ?_
    exact zh_store (pE := 23) C hP1 hD hS1 dL_place_11 dL_place_12 (by decide) dL_place_23 rfl dL_place_24 rfl ⟨by omega, by omega⟩
  · refine zh_run (rest := [.int 0, .ref o]) (N := M) C hP hD dL_place_7 hm (zm3 171 (by decide +kernel) rfl) (zm3 172 (by decide +kernel) rfl) (zm3 173 (by decide +kernel) rfl) rfl rfl zi_X4_place rfl ⟨Nat.le_of_ble_eq_true rfl, Nat.le_of_ble_eq_true rfl⟩ hl rfl (Nat.le_of_ble_eq_true rfl) ⟨Nat.le_of_ble_eq_true rfl, Nat.le_of_ble_eq_true rfl⟩ (fun E N' h => ?_) (fun r N' H1 locs1 h hP1 hS1 => by cases h)
    cases h
    rcases ht _ rfl with hE | hE
    · subst hE
      exact ⟨⟨15, ⟨[], [(0, 12, 19, 30)], 0, 12, 13, rfl, ⟨by decide, by decide⟩, by decide, (zm1 231 (by decide +kernel) rfl), List.mem_of_getElem? (i := 0) rfl, fun z hz => absurd hz List.not_mem_nil⟩, ⟨1, (show Int32.ofInt 1 = cE "java/lang/IllegalArgumentException" by decide), Or.inl ⟨5, by decide, dL_place_15, dL_place_17, dL_place_18⟩⟩⟩, rfl, rfl⟩
    · subst hE
      exact ⟨⟨19, ⟨[(0, 12, 15, 13)], [], 0, 12, 30, rfl, ⟨by decide, by decide⟩, by decide, (zm2 143 (by decide +kernel) rfl), List.mem_of_getElem? (i := 2) rfl, fun z hz => by cases List.mem_singleton.mp hz; exact ⟨by decide, (zm1 231 (by decide +kernel) rfl), Or.inr rfl⟩⟩, ⟨2, (show Int32.ofInt 2 = cE "java/util/NoSuchElementException" by decide), Or.inl ⟨5, by decide, dL_place_19, dL_place_21, dL_place_22⟩⟩⟩, rfl, rfl⟩
theorem dL_nodePlace_0 : decode cL_nodePlace 0 = .ok (.aload_n 3, 1) := by decide +kernel
theorem dL_nodePlace_1 : decode cL_nodePlace 1 = .ok (.iconst 0, 1) := by decide +kernel
theorem dL_nodePlace_2 : decode cL_nodePlace 2 = .ok (.aload_n 0, 1) := by decide +kernel
theorem dL_nodePlace_3 : decode cL_nodePlace 3 = .ok (.iload_n 1, 1) := by decide +kernel
theorem dL_nodePlace_4 : decode cL_nodePlace 4 = .ok (.iload_n 2, 1) := by decide +kernel
theorem dL_nodePlace_5 : decode cL_nodePlace 5 = .ok (.invokevirtual 67, 3) := by decide +kernel
theorem dL_nodePlace_8 : decode cL_nodePlace 8 = .ok (.i2l, 1) := by decide +kernel
theorem dL_nodePlace_9 : decode cL_nodePlace 9 = .ok (.lastore, 1) := by decide +kernel
theorem dL_nodePlace_10 : decode cL_nodePlace 10 = .ok (.goto 11, 3) := by decide +kernel
theorem dL_nodePlace_13 : decode cL_nodePlace 13 = .ok (.astore 4, 2) := by decide +kernel
theorem dL_nodePlace_15 : decode cL_nodePlace 15 = .ok (.iconst 1, 1) := by decide +kernel
theorem dL_nodePlace_16 : decode cL_nodePlace 16 = .ok (.ireturn, 1) := by decide +kernel
theorem dL_nodePlace_17 : decode cL_nodePlace 17 = .ok (.astore 4, 2) := by decide +kernel
theorem dL_nodePlace_19 : decode cL_nodePlace 19 = .ok (.iconst 2, 1) := by decide +kernel
theorem dL_nodePlace_20 : decode cL_nodePlace 20 = .ok (.ireturn, 1) := by decide +kernel
theorem dL_nodePlace_21 : decode cL_nodePlace 21 = .ok (.iconst 0, 1) := by decide +kernel
theorem dL_nodePlace_22 : decode cL_nodePlace 22 = .ok (.ireturn, 1) := by decide +kernel
abbrev mL_nodePlace : MI := (yL_nodePlace, cL_nodePlace, 5, some .int, 8, 200)
def hL_nodePlace : List (Nat × Nat × Nat × Nat) := [(0, 10, 13, 13), (0, 10, 17, 30)]
theorem zi_L_nodePlace : zinH mL_nodePlace hL_nodePlace 4 := ⟨zm3 182 (by decide +kernel) rfl, (zm1 0 (by decide +kernel) rfl), ⟨by decide, by decide⟩, by decide +kernel⟩
set_option maxRecDepth 100000 in
set_option maxHeartbeats 4000000 in
theorem w_nodePlace (q : ZQ) (hq : q.1.stackTraces = false) (o : Nat) (cL : ClassId) (p1 p2 : Int32) (M : Mem) (v : Int64) : Zh (zgX q) mL_nodePlace hL_nodePlace o cL [.ref (q.2.2.2 0), .int p1, .int p2, .ref o] M v (wk cE (f_X4_nodePlace p1 p2 M)) M (wv Int32.toInt64 v (f_X4_nodePlace p1 p2 M)) := by
  have hm := k_X4_nodePlace q hq p1 p2 M
  have ht : ∀ e : String, f_X4_nodePlace p1 p2 M = .inr e → e = "java/lang/IllegalArgumentException" ∨ e = "java/util/NoSuchElementException" := fun e h => t_nodePlace h
  revert hm ht
  generalize f_X4_nodePlace p1 p2 M = r
  intro hm ht
  refine Zh.of (by decide) rfl zi_L_nodePlace rfl (Nat.le_of_ble_eq_true rfl) (fun p e s m below meth c ls C hP hD hl => ?_)
  have hl : lv_has ls 5 [(0, .ref (q.2.2.2 0)), (1, .int p1), (2, .int p2), (3, .ref o)] := hl
  refine lv_aload_n C.1.1 C.1.2.1 dL_nodePlace_0 rfl (lv_at hl 3 rfl) ?_
  refine lv_iconst (v := 0) C.1.1 C.1.2.1 dL_nodePlace_1 (by decide) ?_
  refine lv_aload_n C.1.1 C.1.2.1 dL_nodePlace_2 rfl (lv_at hl 0 rfl) ?_
  refine lv_iload_n C.1.1 C.1.2.1 dL_nodePlace_3 rfl (lv_at hl 1 rfl) ?_
  refine lv_iload_n C.1.1 C.1.2.1 dL_nodePlace_4 rfl (lv_at hl 2 rfl) ?_
  obtain a | E0 := r
  · refine zh_run (rest := [.int 0, .ref o]) (N := M) C hP hD dL_nodePlace_5 hm (zm3 183 (by decide +kernel) rfl) (zm3 184 (by decide +kernel) rfl) (zm3 185 (by decide +kernel) rfl) rfl rfl zi_X4_nodePlace rfl ⟨Nat.le_of_ble_eq_true rfl, Nat.le_of_ble_eq_true rfl⟩ hl rfl (Nat.le_of_ble_eq_true rfl) ⟨Nat.le_of_ble_eq_true rfl, Nat.le_of_ble_eq_true rfl⟩ (fun E N' h => by cases h) (fun r N' H1 locs1 h hP1 hS1 => ?_)
    cases h
    refine lv_i2l C.1.1 C.1.2.1 dL_nodePlace_8 rfl ?_
    exact zh_store (pE := 21) C hP1 hD hS1 dL_nodePlace_9 dL_nodePlace_10 (by decide) dL_nodePlace_21 rfl dL_nodePlace_22 rfl ⟨by omega, by omega⟩
  · refine zh_run (rest := [.int 0, .ref o]) (N := M) C hP hD dL_nodePlace_5 hm (zm3 183 (by decide +kernel) rfl) (zm3 184 (by decide +kernel) rfl) (zm3 185 (by decide +kernel) rfl) rfl rfl zi_X4_nodePlace rfl ⟨Nat.le_of_ble_eq_true rfl, Nat.le_of_ble_eq_true rfl⟩ hl rfl (Nat.le_of_ble_eq_true rfl) ⟨Nat.le_of_ble_eq_true rfl, Nat.le_of_ble_eq_true rfl⟩ (fun E N' h => ?_) (fun r N' H1 locs1 h hP1 hS1 => by cases h)
    cases h
    rcases ht _ rfl with hE | hE
    · subst hE
      exact ⟨⟨13, ⟨[], [(0, 10, 17, 30)], 0, 10, 13, rfl, ⟨by decide, by decide⟩, by decide, (zm1 231 (by decide +kernel) rfl), List.mem_of_getElem? (i := 0) rfl, fun z hz => absurd hz List.not_mem_nil⟩, ⟨1, (show Int32.ofInt 1 = cE "java/lang/IllegalArgumentException" by decide), Or.inl ⟨4, by decide, dL_nodePlace_13, dL_nodePlace_15, dL_nodePlace_16⟩⟩⟩, rfl, rfl⟩
    · subst hE
      exact ⟨⟨17, ⟨[(0, 10, 13, 13)], [], 0, 10, 30, rfl, ⟨by decide, by decide⟩, by decide, (zm2 143 (by decide +kernel) rfl), List.mem_of_getElem? (i := 2) rfl, fun z hz => by cases List.mem_singleton.mp hz; exact ⟨by decide, (zm1 231 (by decide +kernel) rfl), Or.inr rfl⟩⟩, ⟨2, (show Int32.ofInt 2 = cE "java/util/NoSuchElementException" by decide), Or.inl ⟨4, by decide, dL_nodePlace_17, dL_nodePlace_19, dL_nodePlace_20⟩⟩⟩, rfl, rfl⟩
theorem dL_rootPlace_0 : decode cL_rootPlace 0 = .ok (.aload_n 2, 1) := by decide +kernel
theorem dL_rootPlace_1 : decode cL_rootPlace 1 = .ok (.iconst 0, 1) := by decide +kernel
theorem dL_rootPlace_2 : decode cL_rootPlace 2 = .ok (.aload_n 0, 1) := by decide +kernel
theorem dL_rootPlace_3 : decode cL_rootPlace 3 = .ok (.iload_n 1, 1) := by decide +kernel
theorem dL_rootPlace_4 : decode cL_rootPlace 4 = .ok (.invokevirtual 70, 3) := by decide +kernel
theorem dL_rootPlace_7 : decode cL_rootPlace 7 = .ok (.i2l, 1) := by decide +kernel
theorem dL_rootPlace_8 : decode cL_rootPlace 8 = .ok (.lastore, 1) := by decide +kernel
theorem dL_rootPlace_9 : decode cL_rootPlace 9 = .ok (.goto 6, 3) := by decide +kernel
theorem dL_rootPlace_12 : decode cL_rootPlace 12 = .ok (.astore_n 3, 1) := by decide +kernel
theorem dL_rootPlace_13 : decode cL_rootPlace 13 = .ok (.iconst 1, 1) := by decide +kernel
theorem dL_rootPlace_14 : decode cL_rootPlace 14 = .ok (.ireturn, 1) := by decide +kernel
theorem dL_rootPlace_15 : decode cL_rootPlace 15 = .ok (.iconst 0, 1) := by decide +kernel
theorem dL_rootPlace_16 : decode cL_rootPlace 16 = .ok (.ireturn, 1) := by decide +kernel
abbrev mL_rootPlace : MI := (yL_rootPlace, cL_rootPlace, 4, some .int, 8, 200)
def hL_rootPlace : List (Nat × Nat × Nat × Nat) := [(0, 9, 12, 30)]
theorem zi_L_rootPlace : zinH mL_rootPlace hL_rootPlace 3 := ⟨zm3 190 (by decide +kernel) rfl, (zm1 0 (by decide +kernel) rfl), ⟨by decide, by decide⟩, by decide +kernel⟩
set_option maxRecDepth 100000 in
set_option maxHeartbeats 4000000 in
theorem w_rootPlace (q : ZQ) (hq : q.1.stackTraces = false) (o : Nat) (cL : ClassId) (p1 : Int32) (M : Mem) (v : Int64) : Zh (zgX q) mL_rootPlace hL_rootPlace o cL [.ref (q.2.2.2 0), .int p1, .ref o] M v (wk c1E (f_X4_rootPlace p1 M)) M (wv Int32.toInt64 v (f_X4_rootPlace p1 M)) := by
  have hm := k_X4_rootPlace q hq p1 M
  have ht : ∀ e : String, f_X4_rootPlace p1 M = .inr e → e = "java/util/NoSuchElementException" := fun e h => t_rootPlace h
  revert hm ht
  generalize f_X4_rootPlace p1 M = r
  intro hm ht
  refine Zh.of (by decide) rfl zi_L_rootPlace rfl (Nat.le_of_ble_eq_true rfl) (fun p e s m below meth c ls C hP hD hl => ?_)
  have hl : lv_has ls 4 [(0, .ref (q.2.2.2 0)), (1, .int p1), (2, .ref o)] := hl
  refine lv_aload_n C.1.1 C.1.2.1 dL_rootPlace_0 rfl (lv_at hl 2 rfl) ?_
  refine lv_iconst (v := 0) C.1.1 C.1.2.1 dL_rootPlace_1 (by decide) ?_
  refine lv_aload_n C.1.1 C.1.2.1 dL_rootPlace_2 rfl (lv_at hl 0 rfl) ?_
  refine lv_iload_n C.1.1 C.1.2.1 dL_rootPlace_3 rfl (lv_at hl 1 rfl) ?_
  obtain a | E0 := r
  · refine zh_run (rest := [.int 0, .ref o]) (N := M) C hP hD dL_rootPlace_4 hm (zm3 191 (by decide +kernel) rfl) (zm3 192 (by decide +kernel) rfl) (zm3 193 (by decide +kernel) rfl) rfl rfl zi_X4_rootPlace rfl ⟨Nat.le_of_ble_eq_true rfl, Nat.le_of_ble_eq_true rfl⟩ hl rfl (Nat.le_of_ble_eq_true rfl) ⟨Nat.le_of_ble_eq_true rfl, Nat.le_of_ble_eq_true rfl⟩ (fun E N' h => by cases h) (fun r N' H1 locs1 h hP1 hS1 => ?_)
    cases h
    refine lv_i2l C.1.1 C.1.2.1 dL_rootPlace_7 rfl ?_
    exact zh_store (pE := 15) C hP1 hD hS1 dL_rootPlace_8 dL_rootPlace_9 (by decide) dL_rootPlace_15 rfl dL_rootPlace_16 rfl ⟨by omega, by omega⟩
  · refine zh_run (rest := [.int 0, .ref o]) (N := M) C hP hD dL_rootPlace_4 hm (zm3 191 (by decide +kernel) rfl) (zm3 192 (by decide +kernel) rfl) (zm3 193 (by decide +kernel) rfl) rfl rfl zi_X4_rootPlace rfl ⟨Nat.le_of_ble_eq_true rfl, Nat.le_of_ble_eq_true rfl⟩ hl rfl (Nat.le_of_ble_eq_true rfl) ⟨Nat.le_of_ble_eq_true rfl, Nat.le_of_ble_eq_true rfl⟩ (fun E N' h => ?_) (fun r N' H1 locs1 h hP1 hS1 => by cases h)
    cases h
    have hE := ht _ rfl
    subst hE
    exact ⟨⟨12, ⟨[], [], 0, 9, 30, rfl, ⟨by decide, by decide⟩, by decide, (zm2 143 (by decide +kernel) rfl), List.mem_of_getElem? (i := 2) rfl, fun z hz => absurd hz List.not_mem_nil⟩, ⟨1, (show Int32.ofInt 1 = c1E "java/util/NoSuchElementException" by decide), Or.inr ⟨3, by decide, dL_rootPlace_12, dL_rootPlace_13, dL_rootPlace_14⟩⟩⟩, rfl, rfl⟩
theorem dL_birth_0 : decode cL_birth 0 = .ok (.aload_n 3, 1) := by decide +kernel
theorem dL_birth_1 : decode cL_birth 1 = .ok (.iconst 0, 1) := by decide +kernel
theorem dL_birth_2 : decode cL_birth 2 = .ok (.aload_n 0, 1) := by decide +kernel
theorem dL_birth_3 : decode cL_birth 3 = .ok (.iload_n 1, 1) := by decide +kernel
theorem dL_birth_4 : decode cL_birth 4 = .ok (.iload_n 2, 1) := by decide +kernel
theorem dL_birth_5 : decode cL_birth 5 = .ok (.invokevirtual 73, 3) := by decide +kernel
theorem dL_birth_8 : decode cL_birth 8 = .ok (.i2l, 1) := by decide +kernel
theorem dL_birth_9 : decode cL_birth 9 = .ok (.lastore, 1) := by decide +kernel
theorem dL_birth_10 : decode cL_birth 10 = .ok (.goto 7, 3) := by decide +kernel
theorem dL_birth_13 : decode cL_birth 13 = .ok (.astore 4, 2) := by decide +kernel
theorem dL_birth_15 : decode cL_birth 15 = .ok (.iconst 1, 1) := by decide +kernel
theorem dL_birth_16 : decode cL_birth 16 = .ok (.ireturn, 1) := by decide +kernel
theorem dL_birth_17 : decode cL_birth 17 = .ok (.iconst 0, 1) := by decide +kernel
theorem dL_birth_18 : decode cL_birth 18 = .ok (.ireturn, 1) := by decide +kernel
abbrev mL_birth : MI := (yL_birth, cL_birth, 5, some .int, 8, 200)
def hL_birth : List (Nat × Nat × Nat × Nat) := [(0, 10, 13, 13)]
theorem zi_L_birth : zinH mL_birth hL_birth 4 := ⟨zm3 197 (by decide +kernel) rfl, (zm1 0 (by decide +kernel) rfl), ⟨by decide, by decide⟩, by decide +kernel⟩
set_option maxRecDepth 100000 in
set_option maxHeartbeats 4000000 in
theorem w_birth (q : ZQ) (hq : q.1.stackTraces = false) (o : Nat) (cL : ClassId) (p1 p2 : Int32) (M : Mem) (v : Int64) : Zh (zgX q) mL_birth hL_birth o cL [.ref (q.2.2.2 0), .int p1, .int p2, .ref o] M v (wk cE (f_X4_birth p1 p2 M)) M (wv Int32.toInt64 v (f_X4_birth p1 p2 M)) := by
  have hm := k_X4_birth q hq p1 p2 M
  have ht : ∀ e : String, f_X4_birth p1 p2 M = .inr e → e = "java/lang/IllegalArgumentException" := fun e h => t_birth h
  revert hm ht
  generalize f_X4_birth p1 p2 M = r
  intro hm ht
  refine Zh.of (by decide) rfl zi_L_birth rfl (Nat.le_of_ble_eq_true rfl) (fun p e s m below meth c ls C hP hD hl => ?_)
  have hl : lv_has ls 5 [(0, .ref (q.2.2.2 0)), (1, .int p1), (2, .int p2), (3, .ref o)] := hl
  refine lv_aload_n C.1.1 C.1.2.1 dL_birth_0 rfl (lv_at hl 3 rfl) ?_
  refine lv_iconst (v := 0) C.1.1 C.1.2.1 dL_birth_1 (by decide) ?_
  refine lv_aload_n C.1.1 C.1.2.1 dL_birth_2 rfl (lv_at hl 0 rfl) ?_
  refine lv_iload_n C.1.1 C.1.2.1 dL_birth_3 rfl (lv_at hl 1 rfl) ?_
  refine lv_iload_n C.1.1 C.1.2.1 dL_birth_4 rfl (lv_at hl 2 rfl) ?_
  obtain a | E0 := r
  · refine zh_run (rest := [.int 0, .ref o]) (N := M) C hP hD dL_birth_5 hm (zm3 198 (by decide +kernel) rfl) (zm3 199 (by decide +kernel) rfl) (zm3 200 (by decide +kernel) rfl) rfl rfl zi_X4_birth rfl ⟨Nat.le_of_ble_eq_true rfl, Nat.le_of_ble_eq_true rfl⟩ hl rfl (Nat.le_of_ble_eq_true rfl) ⟨Nat.le_of_ble_eq_true rfl, Nat.le_of_ble_eq_true rfl⟩ (fun E N' h => by cases h) (fun r N' H1 locs1 h hP1 hS1 => ?_)
    cases h
    refine lv_i2l C.1.1 C.1.2.1 dL_birth_8 rfl ?_
    exact zh_store (pE := 17) C hP1 hD hS1 dL_birth_9 dL_birth_10 (by decide) dL_birth_17 rfl dL_birth_18 rfl ⟨by omega, by omega⟩
  · refine zh_run (rest := [.int 0, .ref o]) (N := M) C hP hD dL_birth_5 hm (zm3 198 (by decide +kernel) rfl) (zm3 199 (by decide +kernel) rfl) (zm3 200 (by decide +kernel) rfl) rfl rfl zi_X4_birth rfl ⟨Nat.le_of_ble_eq_true rfl, Nat.le_of_ble_eq_true rfl⟩ hl rfl (Nat.le_of_ble_eq_true rfl) ⟨Nat.le_of_ble_eq_true rfl, Nat.le_of_ble_eq_true rfl⟩ (fun E N' h => ?_) (fun r N' H1 locs1 h hP1 hS1 => by cases h)
    cases h
    have hE := ht _ rfl
    subst hE
    exact ⟨⟨13, ⟨[], [], 0, 10, 13, rfl, ⟨by decide, by decide⟩, by decide, (zm1 231 (by decide +kernel) rfl), List.mem_of_getElem? (i := 0) rfl, fun z hz => absurd hz List.not_mem_nil⟩, ⟨1, (show Int32.ofInt 1 = cE "java/lang/IllegalArgumentException" by decide), Or.inl ⟨4, by decide, dL_birth_13, dL_birth_15, dL_birth_16⟩⟩⟩, rfl, rfl⟩
theorem dL_checksum_0 : decode cL_checksum 0 = .ok (.aload_n 2, 1) := by decide +kernel
theorem dL_checksum_1 : decode cL_checksum 1 = .ok (.iconst 0, 1) := by decide +kernel
theorem dL_checksum_2 : decode cL_checksum 2 = .ok (.aload_n 0, 1) := by decide +kernel
theorem dL_checksum_3 : decode cL_checksum 3 = .ok (.iload_n 1, 1) := by decide +kernel
theorem dL_checksum_4 : decode cL_checksum 4 = .ok (.invokevirtual 76, 3) := by decide +kernel
theorem dL_checksum_7 : decode cL_checksum 7 = .ok (.i2l, 1) := by decide +kernel
theorem dL_checksum_8 : decode cL_checksum 8 = .ok (.lastore, 1) := by decide +kernel
theorem dL_checksum_9 : decode cL_checksum 9 = .ok (.goto 6, 3) := by decide +kernel
theorem dL_checksum_12 : decode cL_checksum 12 = .ok (.astore_n 3, 1) := by decide +kernel
theorem dL_checksum_13 : decode cL_checksum 13 = .ok (.iconst 1, 1) := by decide +kernel
theorem dL_checksum_14 : decode cL_checksum 14 = .ok (.ireturn, 1) := by decide +kernel
theorem dL_checksum_15 : decode cL_checksum 15 = .ok (.iconst 0, 1) := by decide +kernel
theorem dL_checksum_16 : decode cL_checksum 16 = .ok (.ireturn, 1) := by decide +kernel
abbrev mL_checksum : MI := (yL_checksum, cL_checksum, 4, some .int, 8, 200)
def hL_checksum : List (Nat × Nat × Nat × Nat) := [(0, 9, 12, 13)]
theorem zi_L_checksum : zinH mL_checksum hL_checksum 3 := ⟨zm3 204 (by decide +kernel) rfl, (zm1 0 (by decide +kernel) rfl), ⟨by decide, by decide⟩, by decide +kernel⟩
set_option maxRecDepth 100000 in
set_option maxHeartbeats 4000000 in
theorem w_checksum (q : ZQ) (hq : q.1.stackTraces = false) (o : Nat) (cL : ClassId) (p1 : Int32) (M : Mem) (v : Int64) : Zh (zgX q) mL_checksum hL_checksum o cL [.ref (q.2.2.2 0), .int p1, .ref o] M v (wk cE (f_X4_checksum p1 M)) M (wv Int32.toInt64 v (f_X4_checksum p1 M)) := by
  have hm := k_X4_checksum q hq p1 M
  have ht : ∀ e : String, f_X4_checksum p1 M = .inr e → e = "java/lang/IllegalArgumentException" := fun e h => t_checksum h
  revert hm ht
  generalize f_X4_checksum p1 M = r
  intro hm ht
  refine Zh.of (by decide) rfl zi_L_checksum rfl (Nat.le_of_ble_eq_true rfl) (fun p e s m below meth c ls C hP hD hl => ?_)
  have hl : lv_has ls 4 [(0, .ref (q.2.2.2 0)), (1, .int p1), (2, .ref o)] := hl
  refine lv_aload_n C.1.1 C.1.2.1 dL_checksum_0 rfl (lv_at hl 2 rfl) ?_
  refine lv_iconst (v := 0) C.1.1 C.1.2.1 dL_checksum_1 (by decide) ?_
  refine lv_aload_n C.1.1 C.1.2.1 dL_checksum_2 rfl (lv_at hl 0 rfl) ?_
  refine lv_iload_n C.1.1 C.1.2.1 dL_checksum_3 rfl (lv_at hl 1 rfl) ?_
  obtain a | E0 := r
  · refine zh_run (rest := [.int 0, .ref o]) (N := M) C hP hD dL_checksum_4 hm (zm3 205 (by decide +kernel) rfl) (zm3 206 (by decide +kernel) rfl) (zm3 207 (by decide +kernel) rfl) rfl rfl zi_X4_checksum rfl ⟨Nat.le_of_ble_eq_true rfl, Nat.le_of_ble_eq_true rfl⟩ hl rfl (Nat.le_of_ble_eq_true rfl) ⟨Nat.le_of_ble_eq_true rfl, Nat.le_of_ble_eq_true rfl⟩ (fun E N' h => by cases h) (fun r N' H1 locs1 h hP1 hS1 => ?_)
    cases h
    refine lv_i2l C.1.1 C.1.2.1 dL_checksum_7 rfl ?_
    exact zh_store (pE := 15) C hP1 hD hS1 dL_checksum_8 dL_checksum_9 (by decide) dL_checksum_15 rfl dL_checksum_16 rfl ⟨by omega, by omega⟩
  · refine zh_run (rest := [.int 0, .ref o]) (N := M) C hP hD dL_checksum_4 hm (zm3 205 (by decide +kernel) rfl) (zm3 206 (by decide +kernel) rfl) (zm3 207 (by decide +kernel) rfl) rfl rfl zi_X4_checksum rfl ⟨Nat.le_of_ble_eq_true rfl, Nat.le_of_ble_eq_true rfl⟩ hl rfl (Nat.le_of_ble_eq_true rfl) ⟨Nat.le_of_ble_eq_true rfl, Nat.le_of_ble_eq_true rfl⟩ (fun E N' h => ?_) (fun r N' H1 locs1 h hP1 hS1 => by cases h)
    cases h
    have hE := ht _ rfl
    subst hE
    exact ⟨⟨12, ⟨[], [], 0, 9, 13, rfl, ⟨by decide, by decide⟩, by decide, (zm1 231 (by decide +kernel) rfl), List.mem_of_getElem? (i := 0) rfl, fun z hz => absurd hz List.not_mem_nil⟩, ⟨1, (show Int32.ofInt 1 = cE "java/lang/IllegalArgumentException" by decide), Or.inr ⟨3, by decide, dL_checksum_12, dL_checksum_13, dL_checksum_14⟩⟩⟩, rfl, rfl⟩
end
