/-! ===== by program (wip/p29/wrap.py): the law's methods that catch ===== -/
section
theorem eK_IAE : eK "java/lang/IllegalArgumentException" = -9999002 := by decide
theorem zc_IAE : Cond.constant RL 15 (-9999002) ∈ zTB := (zm2 65 (by decide +kernel) rfl)
theorem eK_ISE : eK "java/lang/IllegalStateException" = -9999003 := by decide
theorem zc_ISE : Cond.constant RL 28 (-9999003) ∈ zTB := (zm2 115 (by decide +kernel) rfl)
theorem eK_NSE : eK "java/util/NoSuchElementException" = -9999004 := by decide
theorem zc_NSE : Cond.constant RL 34 (-9999004) ∈ zTB := (zm2 140 (by decide +kernel) rfl)
theorem dL_writes_0 : decode cL_writes 0 = .ok (.aload_n 0, 1) := by decide +kernel
theorem dL_writes_1 : decode cL_writes 1 = .ok (.iload_n 1, 1) := by decide +kernel
theorem dL_writes_2 : decode cL_writes 2 = .ok (.iload_n 2, 1) := by decide +kernel
theorem dL_writes_3 : decode cL_writes 3 = .ok (.iload_n 3, 1) := by decide +kernel
theorem dL_writes_4 : decode cL_writes 4 = .ok (.invokevirtual 7, 3) := by decide +kernel
theorem dL_writes_7 : decode cL_writes 7 = .ok (.ireturn, 1) := by decide +kernel
theorem dL_writes_8 : decode cL_writes 8 = .ok (.astore 4, 2) := by decide +kernel
theorem dL_writes_10 : decode cL_writes 10 = .ok (.ldc 15, 2) := by decide +kernel
theorem dL_writes_12 : decode cL_writes 12 = .ok (.ireturn, 1) := by decide +kernel
abbrev mL_writes : MI := (yL_writes, cL_writes, 5, some .int, 8, 200)
def hL_writes : List (Nat × Nat × Nat × Nat) := [(0, 7, 8, 13)]
theorem zi_L_writes : zinH mL_writes hL_writes 4 := ⟨zm1 198 (by decide +kernel) rfl, (zm1 0 (by decide +kernel) rfl), ⟨by decide, by decide⟩, by decide +kernel⟩
set_option maxRecDepth 100000 in
set_option maxHeartbeats 4000000 in
theorem w_writes (q : ZQ) (hq : q.1.stackTraces = false) (p1 p2 p3 : Int32) (M : Mem) : Zd (zgX q) mL_writes hL_writes [.inr 0, .inl p1, .inl p2, .inl p3] M (eI ((f_X4_write p1 p2 p3 M).1)) ((f_X4_write p1 p2 p3 M).2) := by
  have hm := k_X4_write q hq p1 p2 p3 M
  have ht : ∀ e : String, (f_X4_write p1 p2 p3 M).1 = .inr e → e = "java/lang/IllegalArgumentException" := fun e h => t_write h
  revert hm ht
  generalize f_X4_write p1 p2 p3 M = r
  intro hm ht
  refine Zd.of (by decide) rfl zi_L_writes rfl (Nat.le_of_ble_eq_true rfl) (fun p e s m below meth c ls C hP hD hl => ?_)
  have hl : lv_has ls 5 [(0, .ref (q.2.2.2 0)), (1, .int p1), (2, .int p2), (3, .int p3)] := hl
  refine lv_aload_n C.1.1 C.1.2.1 dL_writes_0 rfl (lv_at hl 0 rfl) ?_
  refine lv_iload_n C.1.1 C.1.2.1 dL_writes_1 rfl (lv_at hl 1 rfl) ?_
  refine lv_iload_n C.1.1 C.1.2.1 dL_writes_2 rfl (lv_at hl 2 rfl) ?_
  refine lv_iload_n C.1.1 C.1.2.1 dL_writes_3 rfl (lv_at hl 3 rfl) ?_
  obtain ⟨a | E0, N0⟩ := r
  · refine zh_run (rest := []) (N := N0) C hP hD dL_writes_4 hm (zm1 200 (by decide +kernel) rfl) (zm1 201 (by decide +kernel) rfl) (zm1 202 (by decide +kernel) rfl) rfl rfl zi_X4_write rfl ⟨Nat.le_of_ble_eq_true rfl, Nat.le_of_ble_eq_true rfl⟩ hl rfl (Nat.le_of_ble_eq_true rfl) ⟨Nat.le_of_ble_eq_true rfl, Nat.le_of_ble_eq_true rfl⟩ (fun E N' h => by cases h) (fun r N' H1 locs1 h hP1 hS1 => ?_)
    cases h
    exact zh_ret0 C hP1 hS1 dL_writes_7 ⟨by omega, by omega⟩
  · refine zh_run (rest := []) (N := N0) C hP hD dL_writes_4 hm (zm1 200 (by decide +kernel) rfl) (zm1 201 (by decide +kernel) rfl) (zm1 202 (by decide +kernel) rfl) rfl rfl zi_X4_write rfl ⟨Nat.le_of_ble_eq_true rfl, Nat.le_of_ble_eq_true rfl⟩ hl rfl (Nat.le_of_ble_eq_true rfl) ⟨Nat.le_of_ble_eq_true rfl, Nat.le_of_ble_eq_true rfl⟩ (fun E N' h => ?_) (fun r N' H1 locs1 h hP1 hS1 => by cases h)
    cases h
    have hE := ht _ rfl
    subst hE
    exact ⟨⟨8, ⟨[], [], 0, 7, 13, rfl, ⟨by decide, by decide⟩, by decide, (zm1 199 (by decide +kernel) rfl), List.mem_of_getElem? (i := 0) rfl, fun z hz => absurd hz List.not_mem_nil⟩, ⟨15, (by show Cond.constant RL 15 (eK "java/lang/IllegalArgumentException") ∈ zTB; rw [eK_IAE]; exact zc_IAE), Or.inl ⟨4, by decide, dL_writes_8, dL_writes_10, dL_writes_12⟩⟩⟩, rfl⟩
theorem dL_punches_0 : decode cL_punches 0 = .ok (.aload_n 0, 1) := by decide +kernel
theorem dL_punches_1 : decode cL_punches 1 = .ok (.iload_n 1, 1) := by decide +kernel
theorem dL_punches_2 : decode cL_punches 2 = .ok (.iload_n 2, 1) := by decide +kernel
theorem dL_punches_3 : decode cL_punches 3 = .ok (.iload_n 3, 1) := by decide +kernel
theorem dL_punches_4 : decode cL_punches 4 = .ok (.invokevirtual 16, 3) := by decide +kernel
theorem dL_punches_7 : decode cL_punches 7 = .ok (.ireturn, 1) := by decide +kernel
theorem dL_punches_8 : decode cL_punches 8 = .ok (.astore 4, 2) := by decide +kernel
theorem dL_punches_10 : decode cL_punches 10 = .ok (.ldc 15, 2) := by decide +kernel
theorem dL_punches_12 : decode cL_punches 12 = .ok (.ireturn, 1) := by decide +kernel
abbrev mL_punches : MI := (yL_punches, cL_punches, 5, some .int, 8, 200)
def hL_punches : List (Nat × Nat × Nat × Nat) := [(0, 7, 8, 13)]
theorem zi_L_punches : zinH mL_punches hL_punches 4 := ⟨zm2 68 (by decide +kernel) rfl, (zm1 0 (by decide +kernel) rfl), ⟨by decide, by decide⟩, by decide +kernel⟩
set_option maxRecDepth 100000 in
set_option maxHeartbeats 4000000 in
theorem w_punches (q : ZQ) (hq : q.1.stackTraces = false) (p1 p2 p3 : Int32) (M : Mem) : Zd (zgX q) mL_punches hL_punches [.inr 0, .inl p1, .inl p2, .inl p3] M (eI ((f_X4_punch p1 p2 p3 M).1)) ((f_X4_punch p1 p2 p3 M).2) := by
  have hm := k_X4_punch q hq p1 p2 p3 M
  have ht : ∀ e : String, (f_X4_punch p1 p2 p3 M).1 = .inr e → e = "java/lang/IllegalArgumentException" := fun e h => t_punch h
  revert hm ht
  generalize f_X4_punch p1 p2 p3 M = r
  intro hm ht
  refine Zd.of (by decide) rfl zi_L_punches rfl (Nat.le_of_ble_eq_true rfl) (fun p e s m below meth c ls C hP hD hl => ?_)
  have hl : lv_has ls 5 [(0, .ref (q.2.2.2 0)), (1, .int p1), (2, .int p2), (3, .int p3)] := hl
  refine lv_aload_n C.1.1 C.1.2.1 dL_punches_0 rfl (lv_at hl 0 rfl) ?_
  refine lv_iload_n C.1.1 C.1.2.1 dL_punches_1 rfl (lv_at hl 1 rfl) ?_
  refine lv_iload_n C.1.1 C.1.2.1 dL_punches_2 rfl (lv_at hl 2 rfl) ?_
  refine lv_iload_n C.1.1 C.1.2.1 dL_punches_3 rfl (lv_at hl 3 rfl) ?_
  obtain ⟨a | E0, N0⟩ := r
  · refine zh_run (rest := []) (N := N0) C hP hD dL_punches_4 hm (zm2 69 (by decide +kernel) rfl) (zm2 70 (by decide +kernel) rfl) (zm2 71 (by decide +kernel) rfl) rfl rfl zi_X4_punch rfl ⟨Nat.le_of_ble_eq_true rfl, Nat.le_of_ble_eq_true rfl⟩ hl rfl (Nat.le_of_ble_eq_true rfl) ⟨Nat.le_of_ble_eq_true rfl, Nat.le_of_ble_eq_true rfl⟩ (fun E N' h => by cases h) (fun r N' H1 locs1 h hP1 hS1 => ?_)
    cases h
    exact zh_ret0 C hP1 hS1 dL_punches_7 ⟨by omega, by omega⟩
  · refine zh_run (rest := []) (N := N0) C hP hD dL_punches_4 hm (zm2 69 (by decide +kernel) rfl) (zm2 70 (by decide +kernel) rfl) (zm2 71 (by decide +kernel) rfl) rfl rfl zi_X4_punch rfl ⟨Nat.le_of_ble_eq_true rfl, Nat.le_of_ble_eq_true rfl⟩ hl rfl (Nat.le_of_ble_eq_true rfl) ⟨Nat.le_of_ble_eq_true rfl, Nat.le_of_ble_eq_true rfl⟩ (fun E N' h => ?_) (fun r N' H1 locs1 h hP1 hS1 => by cases h)
    cases h
    have hE := ht _ rfl
    subst hE
    exact ⟨⟨8, ⟨[], [], 0, 7, 13, rfl, ⟨by decide, by decide⟩, by decide, (zm1 199 (by decide +kernel) rfl), List.mem_of_getElem? (i := 0) rfl, fun z hz => absurd hz List.not_mem_nil⟩, ⟨15, (by show Cond.constant RL 15 (eK "java/lang/IllegalArgumentException") ∈ zTB; rw [eK_IAE]; exact zc_IAE), Or.inl ⟨4, by decide, dL_punches_8, dL_punches_10, dL_punches_12⟩⟩⟩, rfl⟩
theorem dL_doubles_0 : decode cL_doubles 0 = .ok (.aload_n 0, 1) := by decide +kernel
theorem dL_doubles_1 : decode cL_doubles 1 = .ok (.iload_n 1, 1) := by decide +kernel
theorem dL_doubles_2 : decode cL_doubles 2 = .ok (.iload_n 2, 1) := by decide +kernel
theorem dL_doubles_3 : decode cL_doubles 3 = .ok (.invokevirtual 19, 3) := by decide +kernel
theorem dL_doubles_6 : decode cL_doubles 6 = .ok (.ireturn, 1) := by decide +kernel
theorem dL_doubles_7 : decode cL_doubles 7 = .ok (.astore_n 3, 1) := by decide +kernel
theorem dL_doubles_8 : decode cL_doubles 8 = .ok (.ldc 15, 2) := by decide +kernel
theorem dL_doubles_10 : decode cL_doubles 10 = .ok (.ireturn, 1) := by decide +kernel
abbrev mL_doubles : MI := (yL_doubles, cL_doubles, 4, some .int, 8, 200)
def hL_doubles : List (Nat × Nat × Nat × Nat) := [(0, 6, 7, 13)]
theorem zi_L_doubles : zinH mL_doubles hL_doubles 3 := ⟨zm2 76 (by decide +kernel) rfl, (zm1 0 (by decide +kernel) rfl), ⟨by decide, by decide⟩, by decide +kernel⟩
set_option maxRecDepth 100000 in
set_option maxHeartbeats 4000000 in
theorem w_doubles (q : ZQ) (hq : q.1.stackTraces = false) (p1 p2 : Int32) (M : Mem) : Zd (zgX q) mL_doubles hL_doubles [.inr 0, .inl p1, .inl p2] M (eI ((f_X4_setCopies p1 p2 M).1)) ((f_X4_setCopies p1 p2 M).2) := by
  have hm := k_X4_setCopies q hq p1 p2 M
  have ht : ∀ e : String, (f_X4_setCopies p1 p2 M).1 = .inr e → e = "java/lang/IllegalArgumentException" := fun e h => t_setCopies h
  revert hm ht
  generalize f_X4_setCopies p1 p2 M = r
  intro hm ht
  refine Zd.of (by decide) rfl zi_L_doubles rfl (Nat.le_of_ble_eq_true rfl) (fun p e s m below meth c ls C hP hD hl => ?_)
  have hl : lv_has ls 4 [(0, .ref (q.2.2.2 0)), (1, .int p1), (2, .int p2)] := hl
  refine lv_aload_n C.1.1 C.1.2.1 dL_doubles_0 rfl (lv_at hl 0 rfl) ?_
  refine lv_iload_n C.1.1 C.1.2.1 dL_doubles_1 rfl (lv_at hl 1 rfl) ?_
  refine lv_iload_n C.1.1 C.1.2.1 dL_doubles_2 rfl (lv_at hl 2 rfl) ?_
  obtain ⟨a | E0, N0⟩ := r
  · refine zh_run (rest := []) (N := N0) C hP hD dL_doubles_3 hm (zm2 77 (by decide +kernel) rfl) (zm2 78 (by decide +kernel) rfl) (zm2 79 (by decide +kernel) rfl) rfl rfl zi_X4_setCopies rfl ⟨Nat.le_of_ble_eq_true rfl, Nat.le_of_ble_eq_true rfl⟩ hl rfl (Nat.le_of_ble_eq_true rfl) ⟨Nat.le_of_ble_eq_true rfl, Nat.le_of_ble_eq_true rfl⟩ (fun E N' h => by cases h) (fun r N' H1 locs1 h hP1 hS1 => ?_)
    cases h
    exact zh_ret0 C hP1 hS1 dL_doubles_6 ⟨by omega, by omega⟩
  · refine zh_run (rest := []) (N := N0) C hP hD dL_doubles_3 hm (zm2 77 (by decide +kernel) rfl) (zm2 78 (by decide +kernel) rfl) (zm2 79 (by decide +kernel) rfl) rfl rfl zi_X4_setCopies rfl ⟨Nat.le_of_ble_eq_true rfl, Nat.le_of_ble_eq_true rfl⟩ hl rfl (Nat.le_of_ble_eq_true rfl) ⟨Nat.le_of_ble_eq_true rfl, Nat.le_of_ble_eq_true rfl⟩ (fun E N' h => ?_) (fun r N' H1 locs1 h hP1 hS1 => by cases h)
    cases h
    have hE := ht _ rfl
    subst hE
    exact ⟨⟨7, ⟨[], [], 0, 6, 13, rfl, ⟨by decide, by decide⟩, by decide, (zm1 199 (by decide +kernel) rfl), List.mem_of_getElem? (i := 0) rfl, fun z hz => absurd hz List.not_mem_nil⟩, ⟨15, (by show Cond.constant RL 15 (eK "java/lang/IllegalArgumentException") ∈ zTB; rw [eK_IAE]; exact zc_IAE), Or.inr ⟨3, by decide, dL_doubles_7, dL_doubles_8, dL_doubles_10⟩⟩⟩, rfl⟩
theorem dL_reads_0 : decode cL_reads 0 = .ok (.aload_n 0, 1) := by decide +kernel
theorem dL_reads_1 : decode cL_reads 1 = .ok (.iload_n 1, 1) := by decide +kernel
theorem dL_reads_2 : decode cL_reads 2 = .ok (.iload_n 2, 1) := by decide +kernel
theorem dL_reads_3 : decode cL_reads 3 = .ok (.invokevirtual 23, 3) := by decide +kernel
theorem dL_reads_6 : decode cL_reads 6 = .ok (.ireturn, 1) := by decide +kernel
theorem dL_reads_7 : decode cL_reads 7 = .ok (.astore_n 3, 1) := by decide +kernel
theorem dL_reads_8 : decode cL_reads 8 = .ok (.ldc 15, 2) := by decide +kernel
theorem dL_reads_10 : decode cL_reads 10 = .ok (.ireturn, 1) := by decide +kernel
theorem dL_reads_11 : decode cL_reads 11 = .ok (.astore_n 3, 1) := by decide +kernel
theorem dL_reads_12 : decode cL_reads 12 = .ok (.ldc 28, 2) := by decide +kernel
theorem dL_reads_14 : decode cL_reads 14 = .ok (.ireturn, 1) := by decide +kernel
abbrev mL_reads : MI := (yL_reads, cL_reads, 4, some .int, 8, 200)
def hL_reads : List (Nat × Nat × Nat × Nat) := [(0, 6, 7, 13), (0, 6, 11, 26)]
theorem zi_L_reads : zinH mL_reads hL_reads 3 := ⟨zm2 84 (by decide +kernel) rfl, (zm1 0 (by decide +kernel) rfl), ⟨by decide, by decide⟩, by decide +kernel⟩
set_option maxRecDepth 100000 in
set_option maxHeartbeats 4000000 in
theorem w_reads (q : ZQ) (hq : q.1.stackTraces = false) (p1 p2 : Int32) (M : Mem) : Zd (zgX q) mL_reads hL_reads [.inr 0, .inl p1, .inl p2] M (eI ((f_X4_read p1 p2 M).1)) ((f_X4_read p1 p2 M).2) := by
  have hm := k_X4_read q hq p1 p2 M
  have ht : ∀ e : String, (f_X4_read p1 p2 M).1 = .inr e → e = "java/lang/IllegalArgumentException" ∨ e = "java/lang/IllegalStateException" := fun e h => t_read h
  revert hm ht
  generalize f_X4_read p1 p2 M = r
  intro hm ht
  refine Zd.of (by decide) rfl zi_L_reads rfl (Nat.le_of_ble_eq_true rfl) (fun p e s m below meth c ls C hP hD hl => ?_)
  have hl : lv_has ls 4 [(0, .ref (q.2.2.2 0)), (1, .int p1), (2, .int p2)] := hl
  refine lv_aload_n C.1.1 C.1.2.1 dL_reads_0 rfl (lv_at hl 0 rfl) ?_
  refine lv_iload_n C.1.1 C.1.2.1 dL_reads_1 rfl (lv_at hl 1 rfl) ?_
  refine lv_iload_n C.1.1 C.1.2.1 dL_reads_2 rfl (lv_at hl 2 rfl) ?_
  obtain ⟨a | E0, N0⟩ := r
  · refine zh_run (rest := []) (N := N0) C hP hD dL_reads_3 hm (zm2 86 (by decide +kernel) rfl) (zm2 87 (by decide +kernel) rfl) (zm2 88 (by decide +kernel) rfl) rfl rfl zi_X4_read rfl ⟨Nat.le_of_ble_eq_true rfl, Nat.le_of_ble_eq_true rfl⟩ hl rfl (Nat.le_of_ble_eq_true rfl) ⟨Nat.le_of_ble_eq_true rfl, Nat.le_of_ble_eq_true rfl⟩ (fun E N' h => by cases h) (fun r N' H1 locs1 h hP1 hS1 => ?_)
    cases h
    exact zh_ret0 C hP1 hS1 dL_reads_6 ⟨by omega, by omega⟩
  · refine zh_run (rest := []) (N := N0) C hP hD dL_reads_3 hm (zm2 86 (by decide +kernel) rfl) (zm2 87 (by decide +kernel) rfl) (zm2 88 (by decide +kernel) rfl) rfl rfl zi_X4_read rfl ⟨Nat.le_of_ble_eq_true rfl, Nat.le_of_ble_eq_true rfl⟩ hl rfl (Nat.le_of_ble_eq_true rfl) ⟨Nat.le_of_ble_eq_true rfl, Nat.le_of_ble_eq_true rfl⟩ (fun E N' h => ?_) (fun r N' H1 locs1 h hP1 hS1 => by cases h)
    cases h
    rcases ht _ rfl with hE | hE
    · subst hE
      exact ⟨⟨7, ⟨[], [(0, 6, 11, 26)], 0, 6, 13, rfl, ⟨by decide, by decide⟩, by decide, (zm1 199 (by decide +kernel) rfl), List.mem_of_getElem? (i := 0) rfl, fun z hz => absurd hz List.not_mem_nil⟩, ⟨15, (by show Cond.constant RL 15 (eK "java/lang/IllegalArgumentException") ∈ zTB; rw [eK_IAE]; exact zc_IAE), Or.inr ⟨3, by decide, dL_reads_7, dL_reads_8, dL_reads_10⟩⟩⟩, rfl⟩
    · subst hE
      exact ⟨⟨11, ⟨[(0, 6, 7, 13)], [], 0, 6, 26, rfl, ⟨by decide, by decide⟩, by decide, (zm2 85 (by decide +kernel) rfl), List.mem_of_getElem? (i := 1) rfl, fun z hz => by cases List.mem_singleton.mp hz; exact ⟨by decide, (zm1 199 (by decide +kernel) rfl), Or.inl rfl⟩⟩, ⟨28, (by show Cond.constant RL 28 (eK "java/lang/IllegalStateException") ∈ zTB; rw [eK_ISE]; exact zc_ISE), Or.inr ⟨3, by decide, dL_reads_11, dL_reads_12, dL_reads_14⟩⟩⟩, rfl⟩
theorem dL_data_0 : decode cL_data 0 = .ok (.aload_n 0, 1) := by decide +kernel
theorem dL_data_1 : decode cL_data 1 = .ok (.iload_n 1, 1) := by decide +kernel
theorem dL_data_2 : decode cL_data 2 = .ok (.iload_n 2, 1) := by decide +kernel
theorem dL_data_3 : decode cL_data 3 = .ok (.invokevirtual 29, 3) := by decide +kernel
theorem dL_data_6 : decode cL_data 6 = .ok (.ireturn, 1) := by decide +kernel
theorem dL_data_7 : decode cL_data 7 = .ok (.astore_n 3, 1) := by decide +kernel
theorem dL_data_8 : decode cL_data 8 = .ok (.ldc 15, 2) := by decide +kernel
theorem dL_data_10 : decode cL_data 10 = .ok (.ireturn, 1) := by decide +kernel
theorem dL_data_11 : decode cL_data 11 = .ok (.astore_n 3, 1) := by decide +kernel
theorem dL_data_12 : decode cL_data 12 = .ok (.ldc 34, 2) := by decide +kernel
theorem dL_data_14 : decode cL_data 14 = .ok (.ireturn, 1) := by decide +kernel
abbrev mL_data : MI := (yL_data, cL_data, 4, some .int, 8, 200)
def hL_data : List (Nat × Nat × Nat × Nat) := [(0, 6, 7, 13), (0, 6, 11, 32)]
theorem zi_L_data : zinH mL_data hL_data 3 := ⟨zm2 118 (by decide +kernel) rfl, (zm1 0 (by decide +kernel) rfl), ⟨by decide, by decide⟩, by decide +kernel⟩
set_option maxRecDepth 100000 in
set_option maxHeartbeats 4000000 in
theorem w_data (q : ZQ) (hq : q.1.stackTraces = false) (p1 p2 : Int32) (M : Mem) : Zd (zgX q) mL_data hL_data [.inr 0, .inl p1, .inl p2] M (eI (f_X4_nextData p1 p2 M)) M := by
  have hm := k_X4_nextData q hq p1 p2 M
  have ht : ∀ e : String, f_X4_nextData p1 p2 M = .inr e → e = "java/lang/IllegalArgumentException" ∨ e = "java/util/NoSuchElementException" := fun e h => t_nextData h
  revert hm ht
  generalize f_X4_nextData p1 p2 M = r
  intro hm ht
  refine Zd.of (by decide) rfl zi_L_data rfl (Nat.le_of_ble_eq_true rfl) (fun p e s m below meth c ls C hP hD hl => ?_)
  have hl : lv_has ls 4 [(0, .ref (q.2.2.2 0)), (1, .int p1), (2, .int p2)] := hl
  refine lv_aload_n C.1.1 C.1.2.1 dL_data_0 rfl (lv_at hl 0 rfl) ?_
  refine lv_iload_n C.1.1 C.1.2.1 dL_data_1 rfl (lv_at hl 1 rfl) ?_
  refine lv_iload_n C.1.1 C.1.2.1 dL_data_2 rfl (lv_at hl 2 rfl) ?_
  obtain a | E0 := r
  · refine zh_run (rest := []) (N := M) C hP hD dL_data_3 hm (zm2 120 (by decide +kernel) rfl) (zm2 121 (by decide +kernel) rfl) (zm2 122 (by decide +kernel) rfl) rfl rfl zi_X4_nextData rfl ⟨Nat.le_of_ble_eq_true rfl, Nat.le_of_ble_eq_true rfl⟩ hl rfl (Nat.le_of_ble_eq_true rfl) ⟨Nat.le_of_ble_eq_true rfl, Nat.le_of_ble_eq_true rfl⟩ (fun E N' h => by cases h) (fun r N' H1 locs1 h hP1 hS1 => ?_)
    cases h
    exact zh_ret0 C hP1 hS1 dL_data_6 ⟨by omega, by omega⟩
  · refine zh_run (rest := []) (N := M) C hP hD dL_data_3 hm (zm2 120 (by decide +kernel) rfl) (zm2 121 (by decide +kernel) rfl) (zm2 122 (by decide +kernel) rfl) rfl rfl zi_X4_nextData rfl ⟨Nat.le_of_ble_eq_true rfl, Nat.le_of_ble_eq_true rfl⟩ hl rfl (Nat.le_of_ble_eq_true rfl) ⟨Nat.le_of_ble_eq_true rfl, Nat.le_of_ble_eq_true rfl⟩ (fun E N' h => ?_) (fun r N' H1 locs1 h hP1 hS1 => by cases h)
    cases h
    rcases ht _ rfl with hE | hE
    · subst hE
      exact ⟨⟨7, ⟨[], [(0, 6, 11, 32)], 0, 6, 13, rfl, ⟨by decide, by decide⟩, by decide, (zm1 199 (by decide +kernel) rfl), List.mem_of_getElem? (i := 0) rfl, fun z hz => absurd hz List.not_mem_nil⟩, ⟨15, (by show Cond.constant RL 15 (eK "java/lang/IllegalArgumentException") ∈ zTB; rw [eK_IAE]; exact zc_IAE), Or.inr ⟨3, by decide, dL_data_7, dL_data_8, dL_data_10⟩⟩⟩, rfl⟩
    · subst hE
      exact ⟨⟨11, ⟨[(0, 6, 7, 13)], [], 0, 6, 32, rfl, ⟨by decide, by decide⟩, by decide, (zm2 119 (by decide +kernel) rfl), List.mem_of_getElem? (i := 2) rfl, fun z hz => by cases List.mem_singleton.mp hz; exact ⟨by decide, (zm1 199 (by decide +kernel) rfl), Or.inr rfl⟩⟩, ⟨34, (by show Cond.constant RL 34 (eK "java/util/NoSuchElementException") ∈ zTB; rw [eK_NSE]; exact zc_NSE), Or.inr ⟨3, by decide, dL_data_11, dL_data_12, dL_data_14⟩⟩⟩, rfl⟩
theorem dL_hole_0 : decode cL_hole 0 = .ok (.aload_n 0, 1) := by decide +kernel
theorem dL_hole_1 : decode cL_hole 1 = .ok (.iload_n 1, 1) := by decide +kernel
theorem dL_hole_2 : decode cL_hole 2 = .ok (.iload_n 2, 1) := by decide +kernel
theorem dL_hole_3 : decode cL_hole 3 = .ok (.invokevirtual 35, 3) := by decide +kernel
theorem dL_hole_6 : decode cL_hole 6 = .ok (.ireturn, 1) := by decide +kernel
theorem dL_hole_7 : decode cL_hole 7 = .ok (.astore_n 3, 1) := by decide +kernel
theorem dL_hole_8 : decode cL_hole 8 = .ok (.ldc 15, 2) := by decide +kernel
theorem dL_hole_10 : decode cL_hole 10 = .ok (.ireturn, 1) := by decide +kernel
abbrev mL_hole : MI := (yL_hole, cL_hole, 4, some .int, 8, 200)
def hL_hole : List (Nat × Nat × Nat × Nat) := [(0, 6, 7, 13)]
theorem zi_L_hole : zinH mL_hole hL_hole 3 := ⟨zm2 143 (by decide +kernel) rfl, (zm1 0 (by decide +kernel) rfl), ⟨by decide, by decide⟩, by decide +kernel⟩
set_option maxRecDepth 100000 in
set_option maxHeartbeats 4000000 in
theorem w_hole (q : ZQ) (hq : q.1.stackTraces = false) (p1 p2 : Int32) (M : Mem) : Zd (zgX q) mL_hole hL_hole [.inr 0, .inl p1, .inl p2] M (eI (f_X4_nextHole p1 p2 M)) M := by
  have hm := k_X4_nextHole q hq p1 p2 M
  have ht : ∀ e : String, f_X4_nextHole p1 p2 M = .inr e → e = "java/lang/IllegalArgumentException" := fun e h => t_nextHole h
  revert hm ht
  generalize f_X4_nextHole p1 p2 M = r
  intro hm ht
  refine Zd.of (by decide) rfl zi_L_hole rfl (Nat.le_of_ble_eq_true rfl) (fun p e s m below meth c ls C hP hD hl => ?_)
  have hl : lv_has ls 4 [(0, .ref (q.2.2.2 0)), (1, .int p1), (2, .int p2)] := hl
  refine lv_aload_n C.1.1 C.1.2.1 dL_hole_0 rfl (lv_at hl 0 rfl) ?_
  refine lv_iload_n C.1.1 C.1.2.1 dL_hole_1 rfl (lv_at hl 1 rfl) ?_
  refine lv_iload_n C.1.1 C.1.2.1 dL_hole_2 rfl (lv_at hl 2 rfl) ?_
  obtain a | E0 := r
  · refine zh_run (rest := []) (N := M) C hP hD dL_hole_3 hm (zm2 144 (by decide +kernel) rfl) (zm2 145 (by decide +kernel) rfl) (zm2 146 (by decide +kernel) rfl) rfl rfl zi_X4_nextHole rfl ⟨Nat.le_of_ble_eq_true rfl, Nat.le_of_ble_eq_true rfl⟩ hl rfl (Nat.le_of_ble_eq_true rfl) ⟨Nat.le_of_ble_eq_true rfl, Nat.le_of_ble_eq_true rfl⟩ (fun E N' h => by cases h) (fun r N' H1 locs1 h hP1 hS1 => ?_)
    cases h
    exact zh_ret0 C hP1 hS1 dL_hole_6 ⟨by omega, by omega⟩
  · refine zh_run (rest := []) (N := M) C hP hD dL_hole_3 hm (zm2 144 (by decide +kernel) rfl) (zm2 145 (by decide +kernel) rfl) (zm2 146 (by decide +kernel) rfl) rfl rfl zi_X4_nextHole rfl ⟨Nat.le_of_ble_eq_true rfl, Nat.le_of_ble_eq_true rfl⟩ hl rfl (Nat.le_of_ble_eq_true rfl) ⟨Nat.le_of_ble_eq_true rfl, Nat.le_of_ble_eq_true rfl⟩ (fun E N' h => ?_) (fun r N' H1 locs1 h hP1 hS1 => by cases h)
    cases h
    have hE := ht _ rfl
    subst hE
    exact ⟨⟨7, ⟨[], [], 0, 6, 13, rfl, ⟨by decide, by decide⟩, by decide, (zm1 199 (by decide +kernel) rfl), List.mem_of_getElem? (i := 0) rfl, fun z hz => absurd hz List.not_mem_nil⟩, ⟨15, (by show Cond.constant RL 15 (eK "java/lang/IllegalArgumentException") ∈ zTB; rw [eK_IAE]; exact zc_IAE), Or.inr ⟨3, by decide, dL_hole_7, dL_hole_8, dL_hole_10⟩⟩⟩, rfl⟩
theorem dL_syncs_0 : decode cL_syncs 0 = .ok (.aload_n 0, 1) := by decide +kernel
theorem dL_syncs_1 : decode cL_syncs 1 = .ok (.invokevirtual 38, 3) := by decide +kernel
theorem dL_syncs_4 : decode cL_syncs 4 = .ok (.ireturn, 1) := by decide +kernel
theorem dL_syncs_5 : decode cL_syncs 5 = .ok (.astore_n 1, 1) := by decide +kernel
theorem dL_syncs_6 : decode cL_syncs 6 = .ok (.ldc 28, 2) := by decide +kernel
theorem dL_syncs_8 : decode cL_syncs 8 = .ok (.ireturn, 1) := by decide +kernel
abbrev mL_syncs : MI := (yL_syncs, cL_syncs, 2, some .int, 8, 200)
def hL_syncs : List (Nat × Nat × Nat × Nat) := [(0, 4, 5, 26)]
theorem zi_L_syncs : zinH mL_syncs hL_syncs 1 := ⟨zm3 75 (by decide +kernel) rfl, (zm1 0 (by decide +kernel) rfl), ⟨by decide, by decide⟩, by decide +kernel⟩
set_option maxRecDepth 100000 in
set_option maxHeartbeats 4000000 in
theorem w_syncs (q : ZQ) (hq : q.1.stackTraces = false) (M : Mem) : Zd (zgX q) mL_syncs hL_syncs [.inr 0] M (eI ((f_X4_sync M).1)) ((f_X4_sync M).2) := by
  have hm := k_X4_sync q hq M
  have ht : ∀ e : String, (f_X4_sync M).1 = .inr e → e = "java/lang/IllegalStateException" := fun e h => t_sync h
  revert hm ht
  generalize f_X4_sync M = r
  intro hm ht
  refine Zd.of (by decide) rfl zi_L_syncs rfl (Nat.le_of_ble_eq_true rfl) (fun p e s m below meth c ls C hP hD hl => ?_)
  have hl : lv_has ls 2 [(0, .ref (q.2.2.2 0))] := hl
  refine lv_aload_n C.1.1 C.1.2.1 dL_syncs_0 rfl (lv_at hl 0 rfl) ?_
  obtain ⟨a | E0, N0⟩ := r
  · refine zh_run (rest := []) (N := N0) C hP hD dL_syncs_1 hm (zm3 76 (by decide +kernel) rfl) (zm3 77 (by decide +kernel) rfl) (zm3 78 (by decide +kernel) rfl) rfl rfl zi_X4_sync rfl ⟨Nat.le_of_ble_eq_true rfl, Nat.le_of_ble_eq_true rfl⟩ hl rfl (Nat.le_of_ble_eq_true rfl) ⟨Nat.le_of_ble_eq_true rfl, Nat.le_of_ble_eq_true rfl⟩ (fun E N' h => by cases h) (fun r N' H1 locs1 h hP1 hS1 => ?_)
    cases h
    exact zh_ret0 C hP1 hS1 dL_syncs_4 ⟨by omega, by omega⟩
  · refine zh_run (rest := []) (N := N0) C hP hD dL_syncs_1 hm (zm3 76 (by decide +kernel) rfl) (zm3 77 (by decide +kernel) rfl) (zm3 78 (by decide +kernel) rfl) rfl rfl zi_X4_sync rfl ⟨Nat.le_of_ble_eq_true rfl, Nat.le_of_ble_eq_true rfl⟩ hl rfl (Nat.le_of_ble_eq_true rfl) ⟨Nat.le_of_ble_eq_true rfl, Nat.le_of_ble_eq_true rfl⟩ (fun E N' h => ?_) (fun r N' H1 locs1 h hP1 hS1 => by cases h)
    cases h
    have hE := ht _ rfl
    subst hE
    exact ⟨⟨5, ⟨[], [], 0, 4, 26, rfl, ⟨by decide, by decide⟩, by decide, (zm2 85 (by decide +kernel) rfl), List.mem_of_getElem? (i := 1) rfl, fun z hz => absurd hz List.not_mem_nil⟩, ⟨28, (by show Cond.constant RL 28 (eK "java/lang/IllegalStateException") ∈ zTB; rw [eK_ISE]; exact zc_ISE), Or.inr ⟨1, by decide, dL_syncs_5, dL_syncs_6, dL_syncs_8⟩⟩⟩, rfl⟩
theorem dL_leaves_0 : decode cL_leaves 0 = .ok (.aload_n 0, 1) := by decide +kernel
theorem dL_leaves_1 : decode cL_leaves 1 = .ok (.iload_n 1, 1) := by decide +kernel
theorem dL_leaves_2 : decode cL_leaves 2 = .ok (.iload_n 2, 1) := by decide +kernel
theorem dL_leaves_3 : decode cL_leaves 3 = .ok (.invokevirtual 42, 3) := by decide +kernel
theorem dL_leaves_6 : decode cL_leaves 6 = .ok (.goto 11, 3) := by decide +kernel
theorem dL_leaves_9 : decode cL_leaves 9 = .ok (.astore_n 3, 1) := by decide +kernel
theorem dL_leaves_10 : decode cL_leaves 10 = .ok (.ldc 15, 2) := by decide +kernel
theorem dL_leaves_12 : decode cL_leaves 12 = .ok (.ireturn, 1) := by decide +kernel
theorem dL_leaves_13 : decode cL_leaves 13 = .ok (.astore_n 3, 1) := by decide +kernel
theorem dL_leaves_14 : decode cL_leaves 14 = .ok (.ldc 28, 2) := by decide +kernel
theorem dL_leaves_16 : decode cL_leaves 16 = .ok (.ireturn, 1) := by decide +kernel
theorem dL_leaves_17 : decode cL_leaves 17 = .ok (.iconst 0, 1) := by decide +kernel
theorem dL_leaves_18 : decode cL_leaves 18 = .ok (.ireturn, 1) := by decide +kernel
abbrev mL_leaves : MI := (yL_leaves, cL_leaves, 4, some .int, 8, 200)
def hL_leaves : List (Nat × Nat × Nat × Nat) := [(0, 6, 9, 13), (0, 6, 13, 26)]
theorem zi_L_leaves : zinH mL_leaves hL_leaves 3 := ⟨zm2 150 (by decide +kernel) rfl, (zm1 0 (by decide +kernel) rfl), ⟨by decide, by decide⟩, by decide +kernel⟩
set_option maxRecDepth 100000 in
set_option maxHeartbeats 4000000 in
theorem w_leaves (q : ZQ) (hq : q.1.stackTraces = false) (p1 p2 : Int32) (M : Mem) : Zd (zgX q) mL_leaves hL_leaves [.inr 0, .inl p1, .inl p2] M (eV ((f_X4_offline p1 p2 M).1)) ((f_X4_offline p1 p2 M).2) := by
  have hm := k_X4_offline q hq p1 p2 M
  have ht : ∀ e : String, (f_X4_offline p1 p2 M).1 = .inr e → e = "java/lang/IllegalArgumentException" ∨ e = "java/lang/IllegalStateException" := fun e h => t_offline h
  revert hm ht
  generalize f_X4_offline p1 p2 M = r
  intro hm ht
  refine Zd.of (by decide) rfl zi_L_leaves rfl (Nat.le_of_ble_eq_true rfl) (fun p e s m below meth c ls C hP hD hl => ?_)
  have hl : lv_has ls 4 [(0, .ref (q.2.2.2 0)), (1, .int p1), (2, .int p2)] := hl
  refine lv_aload_n C.1.1 C.1.2.1 dL_leaves_0 rfl (lv_at hl 0 rfl) ?_
  refine lv_iload_n C.1.1 C.1.2.1 dL_leaves_1 rfl (lv_at hl 1 rfl) ?_
  refine lv_iload_n C.1.1 C.1.2.1 dL_leaves_2 rfl (lv_at hl 2 rfl) ?_
  obtain ⟨a | E0, N0⟩ := r
  · refine zh_run (rest := []) (N := N0) C hP hD dL_leaves_3 hm (zm2 151 (by decide +kernel) rfl) (zm2 152 (by decide +kernel) rfl) (zm2 153 (by decide +kernel) rfl) rfl rfl zi_X4_offline rfl ⟨Nat.le_of_ble_eq_true rfl, Nat.le_of_ble_eq_true rfl⟩ hl rfl (Nat.le_of_ble_eq_true rfl) ⟨Nat.le_of_ble_eq_true rfl, Nat.le_of_ble_eq_true rfl⟩ (fun E N' h => by cases h) (fun r N' H1 locs1 h hP1 hS1 => ?_)
    cases h
    refine lv_goto (tgt := 17) C.1.1 C.1.2.1 dL_leaves_6 (by decide) ?_
    exact zh_ret C hP1 hS1 dL_leaves_17 rfl dL_leaves_18 ⟨by omega, by omega⟩
  · refine zh_run (rest := []) (N := N0) C hP hD dL_leaves_3 hm (zm2 151 (by decide +kernel) rfl) (zm2 152 (by decide +kernel) rfl) (zm2 153 (by decide +kernel) rfl) rfl rfl zi_X4_offline rfl ⟨Nat.le_of_ble_eq_true rfl, Nat.le_of_ble_eq_true rfl⟩ hl rfl (Nat.le_of_ble_eq_true rfl) ⟨Nat.le_of_ble_eq_true rfl, Nat.le_of_ble_eq_true rfl⟩ (fun E N' h => ?_) (fun r N' H1 locs1 h hP1 hS1 => by cases h)
    cases h
    rcases ht _ rfl with hE | hE
    · subst hE
      exact ⟨⟨9, ⟨[], [(0, 6, 13, 26)], 0, 6, 13, rfl, ⟨by decide, by decide⟩, by decide, (zm1 199 (by decide +kernel) rfl), List.mem_of_getElem? (i := 0) rfl, fun z hz => absurd hz List.not_mem_nil⟩, ⟨15, (by show Cond.constant RL 15 (eK "java/lang/IllegalArgumentException") ∈ zTB; rw [eK_IAE]; exact zc_IAE), Or.inr ⟨3, by decide, dL_leaves_9, dL_leaves_10, dL_leaves_12⟩⟩⟩, rfl⟩
    · subst hE
      exact ⟨⟨13, ⟨[(0, 6, 9, 13)], [], 0, 6, 26, rfl, ⟨by decide, by decide⟩, by decide, (zm2 85 (by decide +kernel) rfl), List.mem_of_getElem? (i := 1) rfl, fun z hz => by cases List.mem_singleton.mp hz; exact ⟨by decide, (zm1 199 (by decide +kernel) rfl), Or.inl rfl⟩⟩, ⟨28, (by show Cond.constant RL 28 (eK "java/lang/IllegalStateException") ∈ zTB; rw [eK_ISE]; exact zc_ISE), Or.inr ⟨3, by decide, dL_leaves_13, dL_leaves_14, dL_leaves_16⟩⟩⟩, rfl⟩
theorem dL_returns_0 : decode cL_returns 0 = .ok (.aload_n 0, 1) := by decide +kernel
theorem dL_returns_1 : decode cL_returns 1 = .ok (.iload_n 1, 1) := by decide +kernel
theorem dL_returns_2 : decode cL_returns 2 = .ok (.iload_n 2, 1) := by decide +kernel
theorem dL_returns_3 : decode cL_returns 3 = .ok (.invokevirtual 46, 3) := by decide +kernel
theorem dL_returns_6 : decode cL_returns 6 = .ok (.ireturn, 1) := by decide +kernel
theorem dL_returns_7 : decode cL_returns 7 = .ok (.astore_n 3, 1) := by decide +kernel
theorem dL_returns_8 : decode cL_returns 8 = .ok (.ldc 15, 2) := by decide +kernel
theorem dL_returns_10 : decode cL_returns 10 = .ok (.ireturn, 1) := by decide +kernel
theorem dL_returns_11 : decode cL_returns 11 = .ok (.astore_n 3, 1) := by decide +kernel
theorem dL_returns_12 : decode cL_returns 12 = .ok (.ldc 28, 2) := by decide +kernel
theorem dL_returns_14 : decode cL_returns 14 = .ok (.ireturn, 1) := by decide +kernel
abbrev mL_returns : MI := (yL_returns, cL_returns, 4, some .int, 8, 200)
def hL_returns : List (Nat × Nat × Nat × Nat) := [(0, 6, 7, 13), (0, 6, 11, 26)]
theorem zi_L_returns : zinH mL_returns hL_returns 3 := ⟨zm2 165 (by decide +kernel) rfl, (zm1 0 (by decide +kernel) rfl), ⟨by decide, by decide⟩, by decide +kernel⟩
set_option maxRecDepth 100000 in
set_option maxHeartbeats 4000000 in
theorem w_returns (q : ZQ) (hq : q.1.stackTraces = false) (p1 p2 : Int32) (M : Mem) : Zd (zgX q) mL_returns hL_returns [.inr 0, .inl p1, .inl p2] M (eI ((f_X4_online p1 p2 M).1)) ((f_X4_online p1 p2 M).2) := by
  have hm := k_X4_online q hq p1 p2 M
  have ht : ∀ e : String, (f_X4_online p1 p2 M).1 = .inr e → e = "java/lang/IllegalArgumentException" ∨ e = "java/lang/IllegalStateException" := fun e h => t_online h
  revert hm ht
  generalize f_X4_online p1 p2 M = r
  intro hm ht
  refine Zd.of (by decide) rfl zi_L_returns rfl (Nat.le_of_ble_eq_true rfl) (fun p e s m below meth c ls C hP hD hl => ?_)
  have hl : lv_has ls 4 [(0, .ref (q.2.2.2 0)), (1, .int p1), (2, .int p2)] := hl
  refine lv_aload_n C.1.1 C.1.2.1 dL_returns_0 rfl (lv_at hl 0 rfl) ?_
  refine lv_iload_n C.1.1 C.1.2.1 dL_returns_1 rfl (lv_at hl 1 rfl) ?_
  refine lv_iload_n C.1.1 C.1.2.1 dL_returns_2 rfl (lv_at hl 2 rfl) ?_
  obtain ⟨a | E0, N0⟩ := r
  · refine zh_run (rest := []) (N := N0) C hP hD dL_returns_3 hm (zm2 166 (by decide +kernel) rfl) (zm2 167 (by decide +kernel) rfl) (zm2 168 (by decide +kernel) rfl) rfl rfl zi_X4_online rfl ⟨Nat.le_of_ble_eq_true rfl, Nat.le_of_ble_eq_true rfl⟩ hl rfl (Nat.le_of_ble_eq_true rfl) ⟨Nat.le_of_ble_eq_true rfl, Nat.le_of_ble_eq_true rfl⟩ (fun E N' h => by cases h) (fun r N' H1 locs1 h hP1 hS1 => ?_)
    cases h
    exact zh_ret0 C hP1 hS1 dL_returns_6 ⟨by omega, by omega⟩
  · refine zh_run (rest := []) (N := N0) C hP hD dL_returns_3 hm (zm2 166 (by decide +kernel) rfl) (zm2 167 (by decide +kernel) rfl) (zm2 168 (by decide +kernel) rfl) rfl rfl zi_X4_online rfl ⟨Nat.le_of_ble_eq_true rfl, Nat.le_of_ble_eq_true rfl⟩ hl rfl (Nat.le_of_ble_eq_true rfl) ⟨Nat.le_of_ble_eq_true rfl, Nat.le_of_ble_eq_true rfl⟩ (fun E N' h => ?_) (fun r N' H1 locs1 h hP1 hS1 => by cases h)
    cases h
    rcases ht _ rfl with hE | hE
    · subst hE
      exact ⟨⟨7, ⟨[], [(0, 6, 11, 26)], 0, 6, 13, rfl, ⟨by decide, by decide⟩, by decide, (zm1 199 (by decide +kernel) rfl), List.mem_of_getElem? (i := 0) rfl, fun z hz => absurd hz List.not_mem_nil⟩, ⟨15, (by show Cond.constant RL 15 (eK "java/lang/IllegalArgumentException") ∈ zTB; rw [eK_IAE]; exact zc_IAE), Or.inr ⟨3, by decide, dL_returns_7, dL_returns_8, dL_returns_10⟩⟩⟩, rfl⟩
    · subst hE
      exact ⟨⟨11, ⟨[(0, 6, 7, 13)], [], 0, 6, 26, rfl, ⟨by decide, by decide⟩, by decide, (zm2 85 (by decide +kernel) rfl), List.mem_of_getElem? (i := 1) rfl, fun z hz => by cases List.mem_singleton.mp hz; exact ⟨by decide, (zm1 199 (by decide +kernel) rfl), Or.inl rfl⟩⟩, ⟨28, (by show Cond.constant RL 28 (eK "java/lang/IllegalStateException") ∈ zTB; rw [eK_ISE]; exact zc_ISE), Or.inr ⟨3, by decide, dL_returns_11, dL_returns_12, dL_returns_14⟩⟩⟩, rfl⟩
theorem dL_spoils_0 : decode cL_spoils 0 = .ok (.aload_n 0, 1) := by decide +kernel
theorem dL_spoils_1 : decode cL_spoils 1 = .ok (.iload_n 1, 1) := by decide +kernel
theorem dL_spoils_2 : decode cL_spoils 2 = .ok (.iload_n 2, 1) := by decide +kernel
theorem dL_spoils_3 : decode cL_spoils 3 = .ok (.iload_n 3, 1) := by decide +kernel
theorem dL_spoils_4 : decode cL_spoils 4 = .ok (.invokevirtual 49, 3) := by decide +kernel
theorem dL_spoils_7 : decode cL_spoils 7 = .ok (.ifCond .eq 7, 3) := by decide +kernel
theorem dL_spoils_10 : decode cL_spoils 10 = .ok (.iconst 1, 1) := by decide +kernel
theorem dL_spoils_11 : decode cL_spoils 11 = .ok (.goto 4, 3) := by decide +kernel
theorem dL_spoils_14 : decode cL_spoils 14 = .ok (.iconst 0, 1) := by decide +kernel
theorem dL_spoils_15 : decode cL_spoils 15 = .ok (.ireturn, 1) := by decide +kernel
theorem dL_spoils_16 : decode cL_spoils 16 = .ok (.astore 4, 2) := by decide +kernel
theorem dL_spoils_18 : decode cL_spoils 18 = .ok (.ldc 15, 2) := by decide +kernel
theorem dL_spoils_20 : decode cL_spoils 20 = .ok (.ireturn, 1) := by decide +kernel
theorem dL_spoils_21 : decode cL_spoils 21 = .ok (.astore 4, 2) := by decide +kernel
theorem dL_spoils_23 : decode cL_spoils 23 = .ok (.ldc 28, 2) := by decide +kernel
theorem dL_spoils_25 : decode cL_spoils 25 = .ok (.ireturn, 1) := by decide +kernel
abbrev mL_spoils : MI := (yL_spoils, cL_spoils, 5, some .int, 8, 200)
def hL_spoils : List (Nat × Nat × Nat × Nat) := [(0, 15, 16, 13), (0, 15, 21, 26)]
theorem zi_L_spoils : zinH mL_spoils hL_spoils 4 := ⟨zm2 199 (by decide +kernel) rfl, (zm1 0 (by decide +kernel) rfl), ⟨by decide, by decide⟩, by decide +kernel⟩
set_option maxRecDepth 100000 in
set_option maxHeartbeats 4000000 in
theorem w_spoils (q : ZQ) (hq : q.1.stackTraces = false) (p1 p2 p3 : Int32) (M : Mem) : Zd (zgX q) mL_spoils hL_spoils [.inr 0, .inl p1, .inl p2, .inl p3] M (eB ((f_X4_spoil p1 p2 p3 M).1)) ((f_X4_spoil p1 p2 p3 M).2) := by
  have hm := k_X4_spoil q hq p1 p2 p3 M
  have ht : ∀ e : String, (f_X4_spoil p1 p2 p3 M).1 = .inr e → e = "java/lang/IllegalArgumentException" ∨ e = "java/lang/IllegalStateException" := fun e h => t_spoil h
  revert hm ht
  generalize f_X4_spoil p1 p2 p3 M = r
  intro hm ht
  refine Zd.of (by decide) rfl zi_L_spoils rfl (Nat.le_of_ble_eq_true rfl) (fun p e s m below meth c ls C hP hD hl => ?_)
  have hl : lv_has ls 5 [(0, .ref (q.2.2.2 0)), (1, .int p1), (2, .int p2), (3, .int p3)] := hl
  refine lv_aload_n C.1.1 C.1.2.1 dL_spoils_0 rfl (lv_at hl 0 rfl) ?_
  refine lv_iload_n C.1.1 C.1.2.1 dL_spoils_1 rfl (lv_at hl 1 rfl) ?_
  refine lv_iload_n C.1.1 C.1.2.1 dL_spoils_2 rfl (lv_at hl 2 rfl) ?_
  refine lv_iload_n C.1.1 C.1.2.1 dL_spoils_3 rfl (lv_at hl 3 rfl) ?_
  obtain ⟨a | E0, N0⟩ := r
  · refine zh_run (rest := []) (N := N0) C hP hD dL_spoils_4 hm (zm2 200 (by decide +kernel) rfl) (zm2 201 (by decide +kernel) rfl) (zm2 202 (by decide +kernel) rfl) rfl rfl zi_X4_spoil rfl ⟨Nat.le_of_ble_eq_true rfl, Nat.le_of_ble_eq_true rfl⟩ hl rfl (Nat.le_of_ble_eq_true rfl) ⟨Nat.le_of_ble_eq_true rfl, Nat.le_of_ble_eq_true rfl⟩ (fun E N' h => by cases h) (fun r N' H1 locs1 h hP1 hS1 => ?_)
    cases h
    cases a with
    | true =>
      refine lv_if_eq (tgt := 14) C.1.1 C.1.2.1 dL_spoils_7 (by decide) (fun h => absurd h (by decide)) (fun _ => ?_)
      refine lv_iconst (v := 1) C.1.1 C.1.2.1 dL_spoils_10 (by decide) ?_
      refine lv_goto (tgt := 15) C.1.1 C.1.2.1 dL_spoils_11 (by decide) ?_
      exact zh_ret0 C hP1 hS1 dL_spoils_15 ⟨by omega, by omega⟩
    | false =>
      refine lv_if_eq (tgt := 14) C.1.1 C.1.2.1 dL_spoils_7 (by decide) (fun _ => ?_) (fun h => absurd (show (0 : Int32) = 0 from rfl) h)
      refine lv_iconst (v := 0) C.1.1 C.1.2.1 dL_spoils_14 (by decide) ?_
      exact zh_ret0 C hP1 hS1 dL_spoils_15 ⟨by omega, by omega⟩
  · refine zh_run (rest := []) (N := N0) C hP hD dL_spoils_4 hm (zm2 200 (by decide +kernel) rfl) (zm2 201 (by decide +kernel) rfl) (zm2 202 (by decide +kernel) rfl) rfl rfl zi_X4_spoil rfl ⟨Nat.le_of_ble_eq_true rfl, Nat.le_of_ble_eq_true rfl⟩ hl rfl (Nat.le_of_ble_eq_true rfl) ⟨Nat.le_of_ble_eq_true rfl, Nat.le_of_ble_eq_true rfl⟩ (fun E N' h => ?_) (fun r N' H1 locs1 h hP1 hS1 => by cases h)
    cases h
    rcases ht _ rfl with hE | hE
    · subst hE
      exact ⟨⟨16, ⟨[], [(0, 15, 21, 26)], 0, 15, 13, rfl, ⟨by decide, by decide⟩, by decide, (zm1 199 (by decide +kernel) rfl), List.mem_of_getElem? (i := 0) rfl, fun z hz => absurd hz List.not_mem_nil⟩, ⟨15, (by show Cond.constant RL 15 (eK "java/lang/IllegalArgumentException") ∈ zTB; rw [eK_IAE]; exact zc_IAE), Or.inl ⟨4, by decide, dL_spoils_16, dL_spoils_18, dL_spoils_20⟩⟩⟩, rfl⟩
    · subst hE
      exact ⟨⟨21, ⟨[(0, 15, 16, 13)], [], 0, 15, 26, rfl, ⟨by decide, by decide⟩, by decide, (zm2 85 (by decide +kernel) rfl), List.mem_of_getElem? (i := 1) rfl, fun z hz => by cases List.mem_singleton.mp hz; exact ⟨by decide, (zm1 199 (by decide +kernel) rfl), Or.inl rfl⟩⟩, ⟨28, (by show Cond.constant RL 28 (eK "java/lang/IllegalStateException") ∈ zTB; rw [eK_ISE]; exact zc_ISE), Or.inl ⟨4, by decide, dL_spoils_21, dL_spoils_23, dL_spoils_25⟩⟩⟩, rfl⟩
theorem dL_spoilt_0 : decode cL_spoilt 0 = .ok (.aload_n 0, 1) := by decide +kernel
theorem dL_spoilt_1 : decode cL_spoilt 1 = .ok (.iload_n 1, 1) := by decide +kernel
theorem dL_spoilt_2 : decode cL_spoilt 2 = .ok (.iload_n 2, 1) := by decide +kernel
theorem dL_spoilt_3 : decode cL_spoilt 3 = .ok (.iload_n 3, 1) := by decide +kernel
theorem dL_spoilt_4 : decode cL_spoilt 4 = .ok (.invokevirtual 53, 3) := by decide +kernel
theorem dL_spoilt_7 : decode cL_spoilt 7 = .ok (.ifCond .eq 7, 3) := by decide +kernel
theorem dL_spoilt_10 : decode cL_spoilt 10 = .ok (.iconst 1, 1) := by decide +kernel
theorem dL_spoilt_11 : decode cL_spoilt 11 = .ok (.goto 4, 3) := by decide +kernel
theorem dL_spoilt_14 : decode cL_spoilt 14 = .ok (.iconst 0, 1) := by decide +kernel
theorem dL_spoilt_15 : decode cL_spoilt 15 = .ok (.ireturn, 1) := by decide +kernel
theorem dL_spoilt_16 : decode cL_spoilt 16 = .ok (.astore 4, 2) := by decide +kernel
theorem dL_spoilt_18 : decode cL_spoilt 18 = .ok (.ldc 15, 2) := by decide +kernel
theorem dL_spoilt_20 : decode cL_spoilt 20 = .ok (.ireturn, 1) := by decide +kernel
theorem dL_spoilt_21 : decode cL_spoilt 21 = .ok (.astore 4, 2) := by decide +kernel
theorem dL_spoilt_23 : decode cL_spoilt 23 = .ok (.ldc 28, 2) := by decide +kernel
theorem dL_spoilt_25 : decode cL_spoilt 25 = .ok (.ireturn, 1) := by decide +kernel
abbrev mL_spoilt : MI := (yL_spoilt, cL_spoilt, 5, some .int, 8, 200)
def hL_spoilt : List (Nat × Nat × Nat × Nat) := [(0, 15, 16, 13), (0, 15, 21, 26)]
theorem zi_L_spoilt : zinH mL_spoilt hL_spoilt 4 := ⟨zm2 222 (by decide +kernel) rfl, (zm1 0 (by decide +kernel) rfl), ⟨by decide, by decide⟩, by decide +kernel⟩
set_option maxRecDepth 100000 in
set_option maxHeartbeats 4000000 in
theorem w_spoilt (q : ZQ) (hq : q.1.stackTraces = false) (p1 p2 p3 : Int32) (M : Mem) : Zd (zgX q) mL_spoilt hL_spoilt [.inr 0, .inl p1, .inl p2, .inl p3] M (eB (f_X4_isSpoilt p1 p2 p3 M)) M := by
  have hm := k_X4_isSpoilt q hq p1 p2 p3 M
  have ht : ∀ e : String, f_X4_isSpoilt p1 p2 p3 M = .inr e → e = "java/lang/IllegalArgumentException" ∨ e = "java/lang/IllegalStateException" := fun e h => t_isSpoilt h
  revert hm ht
  generalize f_X4_isSpoilt p1 p2 p3 M = r
  intro hm ht
  refine Zd.of (by decide) rfl zi_L_spoilt rfl (Nat.le_of_ble_eq_true rfl) (fun p e s m below meth c ls C hP hD hl => ?_)
  have hl : lv_has ls 5 [(0, .ref (q.2.2.2 0)), (1, .int p1), (2, .int p2), (3, .int p3)] := hl
  refine lv_aload_n C.1.1 C.1.2.1 dL_spoilt_0 rfl (lv_at hl 0 rfl) ?_
  refine lv_iload_n C.1.1 C.1.2.1 dL_spoilt_1 rfl (lv_at hl 1 rfl) ?_
  refine lv_iload_n C.1.1 C.1.2.1 dL_spoilt_2 rfl (lv_at hl 2 rfl) ?_
  refine lv_iload_n C.1.1 C.1.2.1 dL_spoilt_3 rfl (lv_at hl 3 rfl) ?_
  obtain a | E0 := r
  · refine zh_run (rest := []) (N := M) C hP hD dL_spoilt_4 hm (zm2 223 (by decide +kernel) rfl) (zm2 224 (by decide +kernel) rfl) (zm2 225 (by decide +kernel) rfl) rfl rfl zi_X4_isSpoilt rfl ⟨Nat.le_of_ble_eq_true rfl, Nat.le_of_ble_eq_true rfl⟩ hl rfl (Nat.le_of_ble_eq_true rfl) ⟨Nat.le_of_ble_eq_true rfl, Nat.le_of_ble_eq_true rfl⟩ (fun E N' h => by cases h) (fun r N' H1 locs1 h hP1 hS1 => ?_)
    cases h
    cases a with
    | true =>
      refine lv_if_eq (tgt := 14) C.1.1 C.1.2.1 dL_spoilt_7 (by decide) (fun h => absurd h (by decide)) (fun _ => ?_)
      refine lv_iconst (v := 1) C.1.1 C.1.2.1 dL_spoilt_10 (by decide) ?_
      refine lv_goto (tgt := 15) C.1.1 C.1.2.1 dL_spoilt_11 (by decide) ?_
      exact zh_ret0 C hP1 hS1 dL_spoilt_15 ⟨by omega, by omega⟩
    | false =>
      refine lv_if_eq (tgt := 14) C.1.1 C.1.2.1 dL_spoilt_7 (by decide) (fun _ => ?_) (fun h => absurd (show (0 : Int32) = 0 from rfl) h)
      refine lv_iconst (v := 0) C.1.1 C.1.2.1 dL_spoilt_14 (by decide) ?_
      exact zh_ret0 C hP1 hS1 dL_spoilt_15 ⟨by omega, by omega⟩
  · refine zh_run (rest := []) (N := M) C hP hD dL_spoilt_4 hm (zm2 223 (by decide +kernel) rfl) (zm2 224 (by decide +kernel) rfl) (zm2 225 (by decide +kernel) rfl) rfl rfl zi_X4_isSpoilt rfl ⟨Nat.le_of_ble_eq_true rfl, Nat.le_of_ble_eq_true rfl⟩ hl rfl (Nat.le_of_ble_eq_true rfl) ⟨Nat.le_of_ble_eq_true rfl, Nat.le_of_ble_eq_true rfl⟩ (fun E N' h => ?_) (fun r N' H1 locs1 h hP1 hS1 => by cases h)
    cases h
    rcases ht _ rfl with hE | hE
    · subst hE
      exact ⟨⟨16, ⟨[], [(0, 15, 21, 26)], 0, 15, 13, rfl, ⟨by decide, by decide⟩, by decide, (zm1 199 (by decide +kernel) rfl), List.mem_of_getElem? (i := 0) rfl, fun z hz => absurd hz List.not_mem_nil⟩, ⟨15, (by show Cond.constant RL 15 (eK "java/lang/IllegalArgumentException") ∈ zTB; rw [eK_IAE]; exact zc_IAE), Or.inl ⟨4, by decide, dL_spoilt_16, dL_spoilt_18, dL_spoilt_20⟩⟩⟩, rfl⟩
    · subst hE
      exact ⟨⟨21, ⟨[(0, 15, 16, 13)], [], 0, 15, 26, rfl, ⟨by decide, by decide⟩, by decide, (zm2 85 (by decide +kernel) rfl), List.mem_of_getElem? (i := 1) rfl, fun z hz => by cases List.mem_singleton.mp hz; exact ⟨by decide, (zm1 199 (by decide +kernel) rfl), Or.inl rfl⟩⟩, ⟨28, (by show Cond.constant RL 28 (eK "java/lang/IllegalStateException") ∈ zTB; rw [eK_ISE]; exact zc_ISE), Or.inl ⟨4, by decide, dL_spoilt_21, dL_spoilt_23, dL_spoilt_25⟩⟩⟩, rfl⟩
theorem dL_isFree_0 : decode cL_isFree 0 = .ok (.aload_n 0, 1) := by decide +kernel
theorem dL_isFree_1 : decode cL_isFree 1 = .ok (.iload_n 1, 1) := by decide +kernel
theorem dL_isFree_2 : decode cL_isFree 2 = .ok (.iload_n 2, 1) := by decide +kernel
theorem dL_isFree_3 : decode cL_isFree 3 = .ok (.invokevirtual 56, 3) := by decide +kernel
theorem dL_isFree_6 : decode cL_isFree 6 = .ok (.ifCond .eq 7, 3) := by decide +kernel
theorem dL_isFree_9 : decode cL_isFree 9 = .ok (.iconst 1, 1) := by decide +kernel
theorem dL_isFree_10 : decode cL_isFree 10 = .ok (.goto 4, 3) := by decide +kernel
theorem dL_isFree_13 : decode cL_isFree 13 = .ok (.iconst 0, 1) := by decide +kernel
theorem dL_isFree_14 : decode cL_isFree 14 = .ok (.ireturn, 1) := by decide +kernel
theorem dL_isFree_15 : decode cL_isFree 15 = .ok (.astore_n 3, 1) := by decide +kernel
theorem dL_isFree_16 : decode cL_isFree 16 = .ok (.ldc 15, 2) := by decide +kernel
theorem dL_isFree_18 : decode cL_isFree 18 = .ok (.ireturn, 1) := by decide +kernel
abbrev mL_isFree : MI := (yL_isFree, cL_isFree, 4, some .int, 8, 200)
def hL_isFree : List (Nat × Nat × Nat × Nat) := [(0, 14, 15, 13)]
theorem zi_L_isFree : zinH mL_isFree hL_isFree 3 := ⟨zm2 230 (by decide +kernel) rfl, (zm1 0 (by decide +kernel) rfl), ⟨by decide, by decide⟩, by decide +kernel⟩
set_option maxRecDepth 100000 in
set_option maxHeartbeats 4000000 in
theorem w_isFree (q : ZQ) (hq : q.1.stackTraces = false) (p1 p2 : Int32) (M : Mem) : Zd (zgX q) mL_isFree hL_isFree [.inr 0, .inl p1, .inl p2] M (eB (f_X4_isFree p1 p2 M)) M := by
  have hm := k_X4_isFree q hq p1 p2 M
  have ht : ∀ e : String, f_X4_isFree p1 p2 M = .inr e → e = "java/lang/IllegalArgumentException" := fun e h => t_isFree h
  revert hm ht
  generalize f_X4_isFree p1 p2 M = r
  intro hm ht
  refine Zd.of (by decide) rfl zi_L_isFree rfl (Nat.le_of_ble_eq_true rfl) (fun p e s m below meth c ls C hP hD hl => ?_)
  have hl : lv_has ls 4 [(0, .ref (q.2.2.2 0)), (1, .int p1), (2, .int p2)] := hl
  refine lv_aload_n C.1.1 C.1.2.1 dL_isFree_0 rfl (lv_at hl 0 rfl) ?_
  refine lv_iload_n C.1.1 C.1.2.1 dL_isFree_1 rfl (lv_at hl 1 rfl) ?_
  refine lv_iload_n C.1.1 C.1.2.1 dL_isFree_2 rfl (lv_at hl 2 rfl) ?_
  obtain a | E0 := r
  · refine zh_run (rest := []) (N := M) C hP hD dL_isFree_3 hm (zm2 231 (by decide +kernel) rfl) (zm2 232 (by decide +kernel) rfl) (zm2 233 (by decide +kernel) rfl) rfl rfl zi_X4_isFree rfl ⟨Nat.le_of_ble_eq_true rfl, Nat.le_of_ble_eq_true rfl⟩ hl rfl (Nat.le_of_ble_eq_true rfl) ⟨Nat.le_of_ble_eq_true rfl, Nat.le_of_ble_eq_true rfl⟩ (fun E N' h => by cases h) (fun r N' H1 locs1 h hP1 hS1 => ?_)
    cases h
    cases a with
    | true =>
      refine lv_if_eq (tgt := 13) C.1.1 C.1.2.1 dL_isFree_6 (by decide) (fun h => absurd h (by decide)) (fun _ => ?_)
      refine lv_iconst (v := 1) C.1.1 C.1.2.1 dL_isFree_9 (by decide) ?_
      refine lv_goto (tgt := 14) C.1.1 C.1.2.1 dL_isFree_10 (by decide) ?_
      exact zh_ret0 C hP1 hS1 dL_isFree_14 ⟨by omega, by omega⟩
    | false =>
      refine lv_if_eq (tgt := 13) C.1.1 C.1.2.1 dL_isFree_6 (by decide) (fun _ => ?_) (fun h => absurd (show (0 : Int32) = 0 from rfl) h)
      refine lv_iconst (v := 0) C.1.1 C.1.2.1 dL_isFree_13 (by decide) ?_
      exact zh_ret0 C hP1 hS1 dL_isFree_14 ⟨by omega, by omega⟩
  · refine zh_run (rest := []) (N := M) C hP hD dL_isFree_3 hm (zm2 231 (by decide +kernel) rfl) (zm2 232 (by decide +kernel) rfl) (zm2 233 (by decide +kernel) rfl) rfl rfl zi_X4_isFree rfl ⟨Nat.le_of_ble_eq_true rfl, Nat.le_of_ble_eq_true rfl⟩ hl rfl (Nat.le_of_ble_eq_true rfl) ⟨Nat.le_of_ble_eq_true rfl, Nat.le_of_ble_eq_true rfl⟩ (fun E N' h => ?_) (fun r N' H1 locs1 h hP1 hS1 => by cases h)
    cases h
    have hE := ht _ rfl
    subst hE
    exact ⟨⟨15, ⟨[], [], 0, 14, 13, rfl, ⟨by decide, by decide⟩, by decide, (zm1 199 (by decide +kernel) rfl), List.mem_of_getElem? (i := 0) rfl, fun z hz => absurd hz List.not_mem_nil⟩, ⟨15, (by show Cond.constant RL 15 (eK "java/lang/IllegalArgumentException") ∈ zTB; rw [eK_IAE]; exact zc_IAE), Or.inr ⟨3, by decide, dL_isFree_15, dL_isFree_16, dL_isFree_18⟩⟩⟩, rfl⟩
theorem dL_free_0 : decode cL_free 0 = .ok (.aload_n 0, 1) := by decide +kernel
theorem dL_free_1 : decode cL_free 1 = .ok (.iload_n 1, 1) := by decide +kernel
theorem dL_free_2 : decode cL_free 2 = .ok (.invokevirtual 60, 3) := by decide +kernel
theorem dL_free_5 : decode cL_free 5 = .ok (.ireturn, 1) := by decide +kernel
theorem dL_free_6 : decode cL_free 6 = .ok (.astore_n 2, 1) := by decide +kernel
theorem dL_free_7 : decode cL_free 7 = .ok (.ldc 15, 2) := by decide +kernel
theorem dL_free_9 : decode cL_free 9 = .ok (.ireturn, 1) := by decide +kernel
abbrev mL_free : MI := (yL_free, cL_free, 3, some .int, 8, 200)
def hL_free : List (Nat × Nat × Nat × Nat) := [(0, 5, 6, 13)]
theorem zi_L_free : zinH mL_free hL_free 2 := ⟨zm3 1 (by decide +kernel) rfl, (zm1 0 (by decide +kernel) rfl), ⟨by decide, by decide⟩, by decide +kernel⟩
set_option maxRecDepth 100000 in
set_option maxHeartbeats 4000000 in
theorem w_free (q : ZQ) (hq : q.1.stackTraces = false) (p1 : Int32) (M : Mem) : Zd (zgX q) mL_free hL_free [.inr 0, .inl p1] M (eI (f_X4_free p1 M)) M := by
  have hm := k_X4_free q hq p1 M
  have ht : ∀ e : String, f_X4_free p1 M = .inr e → e = "java/lang/IllegalArgumentException" := fun e h => t_free h
  revert hm ht
  generalize f_X4_free p1 M = r
  intro hm ht
  refine Zd.of (by decide) rfl zi_L_free rfl (Nat.le_of_ble_eq_true rfl) (fun p e s m below meth c ls C hP hD hl => ?_)
  have hl : lv_has ls 3 [(0, .ref (q.2.2.2 0)), (1, .int p1)] := hl
  refine lv_aload_n C.1.1 C.1.2.1 dL_free_0 rfl (lv_at hl 0 rfl) ?_
  refine lv_iload_n C.1.1 C.1.2.1 dL_free_1 rfl (lv_at hl 1 rfl) ?_
  obtain a | E0 := r
  · refine zh_run (rest := []) (N := M) C hP hD dL_free_2 hm (zm3 2 (by decide +kernel) rfl) (zm3 3 (by decide +kernel) rfl) (zm3 4 (by decide +kernel) rfl) rfl rfl zi_X4_free rfl ⟨Nat.le_of_ble_eq_true rfl, Nat.le_of_ble_eq_true rfl⟩ hl rfl (Nat.le_of_ble_eq_true rfl) ⟨Nat.le_of_ble_eq_true rfl, Nat.le_of_ble_eq_true rfl⟩ (fun E N' h => by cases h) (fun r N' H1 locs1 h hP1 hS1 => ?_)
    cases h
    exact zh_ret0 C hP1 hS1 dL_free_5 ⟨by omega, by omega⟩
  · refine zh_run (rest := []) (N := M) C hP hD dL_free_2 hm (zm3 2 (by decide +kernel) rfl) (zm3 3 (by decide +kernel) rfl) (zm3 4 (by decide +kernel) rfl) rfl rfl zi_X4_free rfl ⟨Nat.le_of_ble_eq_true rfl, Nat.le_of_ble_eq_true rfl⟩ hl rfl (Nat.le_of_ble_eq_true rfl) ⟨Nat.le_of_ble_eq_true rfl, Nat.le_of_ble_eq_true rfl⟩ (fun E N' h => ?_) (fun r N' H1 locs1 h hP1 hS1 => by cases h)
    cases h
    have hE := ht _ rfl
    subst hE
    exact ⟨⟨6, ⟨[], [], 0, 5, 13, rfl, ⟨by decide, by decide⟩, by decide, (zm1 199 (by decide +kernel) rfl), List.mem_of_getElem? (i := 0) rfl, fun z hz => absurd hz List.not_mem_nil⟩, ⟨15, (by show Cond.constant RL 15 (eK "java/lang/IllegalArgumentException") ∈ zTB; rw [eK_IAE]; exact zc_IAE), Or.inr ⟨2, by decide, dL_free_6, dL_free_7, dL_free_9⟩⟩⟩, rfl⟩
theorem dL_places_0 : decode cL_places 0 = .ok (.aload_n 0, 1) := by decide +kernel
theorem dL_places_1 : decode cL_places 1 = .ok (.iload_n 1, 1) := by decide +kernel
theorem dL_places_2 : decode cL_places 2 = .ok (.iload_n 2, 1) := by decide +kernel
theorem dL_places_3 : decode cL_places 3 = .ok (.invokevirtual 64, 3) := by decide +kernel
theorem dL_places_6 : decode cL_places 6 = .ok (.ireturn, 1) := by decide +kernel
theorem dL_places_7 : decode cL_places 7 = .ok (.astore_n 3, 1) := by decide +kernel
theorem dL_places_8 : decode cL_places 8 = .ok (.ldc 15, 2) := by decide +kernel
theorem dL_places_10 : decode cL_places 10 = .ok (.ireturn, 1) := by decide +kernel
abbrev mL_places : MI := (yL_places, cL_places, 4, some .int, 8, 200)
def hL_places : List (Nat × Nat × Nat × Nat) := [(0, 6, 7, 13)]
theorem zi_L_places : zinH mL_places hL_places 3 := ⟨zm3 15 (by decide +kernel) rfl, (zm1 0 (by decide +kernel) rfl), ⟨by decide, by decide⟩, by decide +kernel⟩
set_option maxRecDepth 100000 in
set_option maxHeartbeats 4000000 in
theorem w_places (q : ZQ) (hq : q.1.stackTraces = false) (p1 p2 : Int32) (M : Mem) : Zd (zgX q) mL_places hL_places [.inr 0, .inl p1, .inl p2] M (eI (f_X4_places p1 p2 M)) M := by
  have hm := k_X4_places q hq p1 p2 M
  have ht : ∀ e : String, f_X4_places p1 p2 M = .inr e → e = "java/lang/IllegalArgumentException" := fun e h => t_places h
  revert hm ht
  generalize f_X4_places p1 p2 M = r
  intro hm ht
  refine Zd.of (by decide) rfl zi_L_places rfl (Nat.le_of_ble_eq_true rfl) (fun p e s m below meth c ls C hP hD hl => ?_)
  have hl : lv_has ls 4 [(0, .ref (q.2.2.2 0)), (1, .int p1), (2, .int p2)] := hl
  refine lv_aload_n C.1.1 C.1.2.1 dL_places_0 rfl (lv_at hl 0 rfl) ?_
  refine lv_iload_n C.1.1 C.1.2.1 dL_places_1 rfl (lv_at hl 1 rfl) ?_
  refine lv_iload_n C.1.1 C.1.2.1 dL_places_2 rfl (lv_at hl 2 rfl) ?_
  obtain a | E0 := r
  · refine zh_run (rest := []) (N := M) C hP hD dL_places_3 hm (zm3 16 (by decide +kernel) rfl) (zm3 17 (by decide +kernel) rfl) (zm3 18 (by decide +kernel) rfl) rfl rfl zi_X4_places rfl ⟨Nat.le_of_ble_eq_true rfl, Nat.le_of_ble_eq_true rfl⟩ hl rfl (Nat.le_of_ble_eq_true rfl) ⟨Nat.le_of_ble_eq_true rfl, Nat.le_of_ble_eq_true rfl⟩ (fun E N' h => by cases h) (fun r N' H1 locs1 h hP1 hS1 => ?_)
    cases h
    exact zh_ret0 C hP1 hS1 dL_places_6 ⟨by omega, by omega⟩
  · refine zh_run (rest := []) (N := M) C hP hD dL_places_3 hm (zm3 16 (by decide +kernel) rfl) (zm3 17 (by decide +kernel) rfl) (zm3 18 (by decide +kernel) rfl) rfl rfl zi_X4_places rfl ⟨Nat.le_of_ble_eq_true rfl, Nat.le_of_ble_eq_true rfl⟩ hl rfl (Nat.le_of_ble_eq_true rfl) ⟨Nat.le_of_ble_eq_true rfl, Nat.le_of_ble_eq_true rfl⟩ (fun E N' h => ?_) (fun r N' H1 locs1 h hP1 hS1 => by cases h)
    cases h
    have hE := ht _ rfl
    subst hE
    exact ⟨⟨7, ⟨[], [], 0, 6, 13, rfl, ⟨by decide, by decide⟩, by decide, (zm1 199 (by decide +kernel) rfl), List.mem_of_getElem? (i := 0) rfl, fun z hz => absurd hz List.not_mem_nil⟩, ⟨15, (by show Cond.constant RL 15 (eK "java/lang/IllegalArgumentException") ∈ zTB; rw [eK_IAE]; exact zc_IAE), Or.inr ⟨3, by decide, dL_places_7, dL_places_8, dL_places_10⟩⟩⟩, rfl⟩
theorem dL_place_0 : decode cL_place 0 = .ok (.aload_n 0, 1) := by decide +kernel
theorem dL_place_1 : decode cL_place 1 = .ok (.iload_n 1, 1) := by decide +kernel
theorem dL_place_2 : decode cL_place 2 = .ok (.iload_n 2, 1) := by decide +kernel
theorem dL_place_3 : decode cL_place 3 = .ok (.iload_n 3, 1) := by decide +kernel
theorem dL_place_4 : decode cL_place 4 = .ok (.invokevirtual 67, 3) := by decide +kernel
theorem dL_place_7 : decode cL_place 7 = .ok (.ireturn, 1) := by decide +kernel
theorem dL_place_8 : decode cL_place 8 = .ok (.astore 4, 2) := by decide +kernel
theorem dL_place_10 : decode cL_place 10 = .ok (.ldc 15, 2) := by decide +kernel
theorem dL_place_12 : decode cL_place 12 = .ok (.ireturn, 1) := by decide +kernel
theorem dL_place_13 : decode cL_place 13 = .ok (.astore 4, 2) := by decide +kernel
theorem dL_place_15 : decode cL_place 15 = .ok (.ldc 34, 2) := by decide +kernel
theorem dL_place_17 : decode cL_place 17 = .ok (.ireturn, 1) := by decide +kernel
abbrev mL_place : MI := (yL_place, cL_place, 5, some .int, 8, 200)
def hL_place : List (Nat × Nat × Nat × Nat) := [(0, 7, 8, 13), (0, 7, 13, 32)]
theorem zi_L_place : zinH mL_place hL_place 4 := ⟨zm3 27 (by decide +kernel) rfl, (zm1 0 (by decide +kernel) rfl), ⟨by decide, by decide⟩, by decide +kernel⟩
set_option maxRecDepth 100000 in
set_option maxHeartbeats 4000000 in
theorem w_place (q : ZQ) (hq : q.1.stackTraces = false) (p1 p2 p3 : Int32) (M : Mem) : Zd (zgX q) mL_place hL_place [.inr 0, .inl p1, .inl p2, .inl p3] M (eI (f_X4_place p1 p2 p3 M)) M := by
  have hm := k_X4_place q hq p1 p2 p3 M
  have ht : ∀ e : String, f_X4_place p1 p2 p3 M = .inr e → e = "java/lang/IllegalArgumentException" ∨ e = "java/util/NoSuchElementException" := fun e h => t_place h
  revert hm ht
  generalize f_X4_place p1 p2 p3 M = r
  intro hm ht
  refine Zd.of (by decide) rfl zi_L_place rfl (Nat.le_of_ble_eq_true rfl) (fun p e s m below meth c ls C hP hD hl => ?_)
  have hl : lv_has ls 5 [(0, .ref (q.2.2.2 0)), (1, .int p1), (2, .int p2), (3, .int p3)] := hl
  refine lv_aload_n C.1.1 C.1.2.1 dL_place_0 rfl (lv_at hl 0 rfl) ?_
  refine lv_iload_n C.1.1 C.1.2.1 dL_place_1 rfl (lv_at hl 1 rfl) ?_
  refine lv_iload_n C.1.1 C.1.2.1 dL_place_2 rfl (lv_at hl 2 rfl) ?_
  refine lv_iload_n C.1.1 C.1.2.1 dL_place_3 rfl (lv_at hl 3 rfl) ?_
  obtain a | E0 := r
  · refine zh_run (rest := []) (N := M) C hP hD dL_place_4 hm (zm3 28 (by decide +kernel) rfl) (zm3 29 (by decide +kernel) rfl) (zm3 30 (by decide +kernel) rfl) rfl rfl zi_X4_place rfl ⟨Nat.le_of_ble_eq_true rfl, Nat.le_of_ble_eq_true rfl⟩ hl rfl (Nat.le_of_ble_eq_true rfl) ⟨Nat.le_of_ble_eq_true rfl, Nat.le_of_ble_eq_true rfl⟩ (fun E N' h => by cases h) (fun r N' H1 locs1 h hP1 hS1 => ?_)
    cases h
    exact zh_ret0 C hP1 hS1 dL_place_7 ⟨by omega, by omega⟩
  · refine zh_run (rest := []) (N := M) C hP hD dL_place_4 hm (zm3 28 (by decide +kernel) rfl) (zm3 29 (by decide +kernel) rfl) (zm3 30 (by decide +kernel) rfl) rfl rfl zi_X4_place rfl ⟨Nat.le_of_ble_eq_true rfl, Nat.le_of_ble_eq_true rfl⟩ hl rfl (Nat.le_of_ble_eq_true rfl) ⟨Nat.le_of_ble_eq_true rfl, Nat.le_of_ble_eq_true rfl⟩ (fun E N' h => ?_) (fun r N' H1 locs1 h hP1 hS1 => by cases h)
    cases h
    rcases ht _ rfl with hE | hE
    · subst hE
      exact ⟨⟨8, ⟨[], [(0, 7, 13, 32)], 0, 7, 13, rfl, ⟨by decide, by decide⟩, by decide, (zm1 199 (by decide +kernel) rfl), List.mem_of_getElem? (i := 0) rfl, fun z hz => absurd hz List.not_mem_nil⟩, ⟨15, (by show Cond.constant RL 15 (eK "java/lang/IllegalArgumentException") ∈ zTB; rw [eK_IAE]; exact zc_IAE), Or.inl ⟨4, by decide, dL_place_8, dL_place_10, dL_place_12⟩⟩⟩, rfl⟩
    · subst hE
      exact ⟨⟨13, ⟨[(0, 7, 8, 13)], [], 0, 7, 32, rfl, ⟨by decide, by decide⟩, by decide, (zm2 119 (by decide +kernel) rfl), List.mem_of_getElem? (i := 2) rfl, fun z hz => by cases List.mem_singleton.mp hz; exact ⟨by decide, (zm1 199 (by decide +kernel) rfl), Or.inr rfl⟩⟩, ⟨34, (by show Cond.constant RL 34 (eK "java/util/NoSuchElementException") ∈ zTB; rw [eK_NSE]; exact zc_NSE), Or.inl ⟨4, by decide, dL_place_13, dL_place_15, dL_place_17⟩⟩⟩, rfl⟩
theorem dL_nodePlace_0 : decode cL_nodePlace 0 = .ok (.aload_n 0, 1) := by decide +kernel
theorem dL_nodePlace_1 : decode cL_nodePlace 1 = .ok (.iload_n 1, 1) := by decide +kernel
theorem dL_nodePlace_2 : decode cL_nodePlace 2 = .ok (.iload_n 2, 1) := by decide +kernel
theorem dL_nodePlace_3 : decode cL_nodePlace 3 = .ok (.invokevirtual 70, 3) := by decide +kernel
theorem dL_nodePlace_6 : decode cL_nodePlace 6 = .ok (.ireturn, 1) := by decide +kernel
theorem dL_nodePlace_7 : decode cL_nodePlace 7 = .ok (.astore_n 3, 1) := by decide +kernel
theorem dL_nodePlace_8 : decode cL_nodePlace 8 = .ok (.ldc 15, 2) := by decide +kernel
theorem dL_nodePlace_10 : decode cL_nodePlace 10 = .ok (.ireturn, 1) := by decide +kernel
theorem dL_nodePlace_11 : decode cL_nodePlace 11 = .ok (.astore_n 3, 1) := by decide +kernel
theorem dL_nodePlace_12 : decode cL_nodePlace 12 = .ok (.ldc 34, 2) := by decide +kernel
theorem dL_nodePlace_14 : decode cL_nodePlace 14 = .ok (.ireturn, 1) := by decide +kernel
abbrev mL_nodePlace : MI := (yL_nodePlace, cL_nodePlace, 4, some .int, 8, 200)
def hL_nodePlace : List (Nat × Nat × Nat × Nat) := [(0, 6, 7, 13), (0, 6, 11, 32)]
theorem zi_L_nodePlace : zinH mL_nodePlace hL_nodePlace 3 := ⟨zm3 39 (by decide +kernel) rfl, (zm1 0 (by decide +kernel) rfl), ⟨by decide, by decide⟩, by decide +kernel⟩
set_option maxRecDepth 100000 in
set_option maxHeartbeats 4000000 in
theorem w_nodePlace (q : ZQ) (hq : q.1.stackTraces = false) (p1 p2 : Int32) (M : Mem) : Zd (zgX q) mL_nodePlace hL_nodePlace [.inr 0, .inl p1, .inl p2] M (eI (f_X4_nodePlace p1 p2 M)) M := by
  have hm := k_X4_nodePlace q hq p1 p2 M
  have ht : ∀ e : String, f_X4_nodePlace p1 p2 M = .inr e → e = "java/lang/IllegalArgumentException" ∨ e = "java/util/NoSuchElementException" := fun e h => t_nodePlace h
  revert hm ht
  generalize f_X4_nodePlace p1 p2 M = r
  intro hm ht
  refine Zd.of (by decide) rfl zi_L_nodePlace rfl (Nat.le_of_ble_eq_true rfl) (fun p e s m below meth c ls C hP hD hl => ?_)
  have hl : lv_has ls 4 [(0, .ref (q.2.2.2 0)), (1, .int p1), (2, .int p2)] := hl
  refine lv_aload_n C.1.1 C.1.2.1 dL_nodePlace_0 rfl (lv_at hl 0 rfl) ?_
  refine lv_iload_n C.1.1 C.1.2.1 dL_nodePlace_1 rfl (lv_at hl 1 rfl) ?_
  refine lv_iload_n C.1.1 C.1.2.1 dL_nodePlace_2 rfl (lv_at hl 2 rfl) ?_
  obtain a | E0 := r
  · refine zh_run (rest := []) (N := M) C hP hD dL_nodePlace_3 hm (zm3 40 (by decide +kernel) rfl) (zm3 41 (by decide +kernel) rfl) (zm3 42 (by decide +kernel) rfl) rfl rfl zi_X4_nodePlace rfl ⟨Nat.le_of_ble_eq_true rfl, Nat.le_of_ble_eq_true rfl⟩ hl rfl (Nat.le_of_ble_eq_true rfl) ⟨Nat.le_of_ble_eq_true rfl, Nat.le_of_ble_eq_true rfl⟩ (fun E N' h => by cases h) (fun r N' H1 locs1 h hP1 hS1 => ?_)
    cases h
    exact zh_ret0 C hP1 hS1 dL_nodePlace_6 ⟨by omega, by omega⟩
  · refine zh_run (rest := []) (N := M) C hP hD dL_nodePlace_3 hm (zm3 40 (by decide +kernel) rfl) (zm3 41 (by decide +kernel) rfl) (zm3 42 (by decide +kernel) rfl) rfl rfl zi_X4_nodePlace rfl ⟨Nat.le_of_ble_eq_true rfl, Nat.le_of_ble_eq_true rfl⟩ hl rfl (Nat.le_of_ble_eq_true rfl) ⟨Nat.le_of_ble_eq_true rfl, Nat.le_of_ble_eq_true rfl⟩ (fun E N' h => ?_) (fun r N' H1 locs1 h hP1 hS1 => by cases h)
    cases h
    rcases ht _ rfl with hE | hE
    · subst hE
      exact ⟨⟨7, ⟨[], [(0, 6, 11, 32)], 0, 6, 13, rfl, ⟨by decide, by decide⟩, by decide, (zm1 199 (by decide +kernel) rfl), List.mem_of_getElem? (i := 0) rfl, fun z hz => absurd hz List.not_mem_nil⟩, ⟨15, (by show Cond.constant RL 15 (eK "java/lang/IllegalArgumentException") ∈ zTB; rw [eK_IAE]; exact zc_IAE), Or.inr ⟨3, by decide, dL_nodePlace_7, dL_nodePlace_8, dL_nodePlace_10⟩⟩⟩, rfl⟩
    · subst hE
      exact ⟨⟨11, ⟨[(0, 6, 7, 13)], [], 0, 6, 32, rfl, ⟨by decide, by decide⟩, by decide, (zm2 119 (by decide +kernel) rfl), List.mem_of_getElem? (i := 2) rfl, fun z hz => by cases List.mem_singleton.mp hz; exact ⟨by decide, (zm1 199 (by decide +kernel) rfl), Or.inr rfl⟩⟩, ⟨34, (by show Cond.constant RL 34 (eK "java/util/NoSuchElementException") ∈ zTB; rw [eK_NSE]; exact zc_NSE), Or.inr ⟨3, by decide, dL_nodePlace_11, dL_nodePlace_12, dL_nodePlace_14⟩⟩⟩, rfl⟩
theorem dL_rootPlace_0 : decode cL_rootPlace 0 = .ok (.aload_n 0, 1) := by decide +kernel
theorem dL_rootPlace_1 : decode cL_rootPlace 1 = .ok (.iload_n 1, 1) := by decide +kernel
theorem dL_rootPlace_2 : decode cL_rootPlace 2 = .ok (.invokevirtual 73, 3) := by decide +kernel
theorem dL_rootPlace_5 : decode cL_rootPlace 5 = .ok (.ireturn, 1) := by decide +kernel
theorem dL_rootPlace_6 : decode cL_rootPlace 6 = .ok (.astore_n 2, 1) := by decide +kernel
theorem dL_rootPlace_7 : decode cL_rootPlace 7 = .ok (.ldc 34, 2) := by decide +kernel
theorem dL_rootPlace_9 : decode cL_rootPlace 9 = .ok (.ireturn, 1) := by decide +kernel
abbrev mL_rootPlace : MI := (yL_rootPlace, cL_rootPlace, 3, some .int, 8, 200)
def hL_rootPlace : List (Nat × Nat × Nat × Nat) := [(0, 5, 6, 32)]
theorem zi_L_rootPlace : zinH mL_rootPlace hL_rootPlace 2 := ⟨zm3 47 (by decide +kernel) rfl, (zm1 0 (by decide +kernel) rfl), ⟨by decide, by decide⟩, by decide +kernel⟩
set_option maxRecDepth 100000 in
set_option maxHeartbeats 4000000 in
theorem w_rootPlace (q : ZQ) (hq : q.1.stackTraces = false) (p1 : Int32) (M : Mem) : Zd (zgX q) mL_rootPlace hL_rootPlace [.inr 0, .inl p1] M (eI (f_X4_rootPlace p1 M)) M := by
  have hm := k_X4_rootPlace q hq p1 M
  have ht : ∀ e : String, f_X4_rootPlace p1 M = .inr e → e = "java/util/NoSuchElementException" := fun e h => t_rootPlace h
  revert hm ht
  generalize f_X4_rootPlace p1 M = r
  intro hm ht
  refine Zd.of (by decide) rfl zi_L_rootPlace rfl (Nat.le_of_ble_eq_true rfl) (fun p e s m below meth c ls C hP hD hl => ?_)
  have hl : lv_has ls 3 [(0, .ref (q.2.2.2 0)), (1, .int p1)] := hl
  refine lv_aload_n C.1.1 C.1.2.1 dL_rootPlace_0 rfl (lv_at hl 0 rfl) ?_
  refine lv_iload_n C.1.1 C.1.2.1 dL_rootPlace_1 rfl (lv_at hl 1 rfl) ?_
  obtain a | E0 := r
  · refine zh_run (rest := []) (N := M) C hP hD dL_rootPlace_2 hm (zm3 48 (by decide +kernel) rfl) (zm3 49 (by decide +kernel) rfl) (zm3 50 (by decide +kernel) rfl) rfl rfl zi_X4_rootPlace rfl ⟨Nat.le_of_ble_eq_true rfl, Nat.le_of_ble_eq_true rfl⟩ hl rfl (Nat.le_of_ble_eq_true rfl) ⟨Nat.le_of_ble_eq_true rfl, Nat.le_of_ble_eq_true rfl⟩ (fun E N' h => by cases h) (fun r N' H1 locs1 h hP1 hS1 => ?_)
    cases h
    exact zh_ret0 C hP1 hS1 dL_rootPlace_5 ⟨by omega, by omega⟩
  · refine zh_run (rest := []) (N := M) C hP hD dL_rootPlace_2 hm (zm3 48 (by decide +kernel) rfl) (zm3 49 (by decide +kernel) rfl) (zm3 50 (by decide +kernel) rfl) rfl rfl zi_X4_rootPlace rfl ⟨Nat.le_of_ble_eq_true rfl, Nat.le_of_ble_eq_true rfl⟩ hl rfl (Nat.le_of_ble_eq_true rfl) ⟨Nat.le_of_ble_eq_true rfl, Nat.le_of_ble_eq_true rfl⟩ (fun E N' h => ?_) (fun r N' H1 locs1 h hP1 hS1 => by cases h)
    cases h
    have hE := ht _ rfl
    subst hE
    exact ⟨⟨6, ⟨[], [], 0, 5, 32, rfl, ⟨by decide, by decide⟩, by decide, (zm2 119 (by decide +kernel) rfl), List.mem_of_getElem? (i := 2) rfl, fun z hz => absurd hz List.not_mem_nil⟩, ⟨34, (by show Cond.constant RL 34 (eK "java/util/NoSuchElementException") ∈ zTB; rw [eK_NSE]; exact zc_NSE), Or.inr ⟨2, by decide, dL_rootPlace_6, dL_rootPlace_7, dL_rootPlace_9⟩⟩⟩, rfl⟩
theorem dL_birth_0 : decode cL_birth 0 = .ok (.aload_n 0, 1) := by decide +kernel
theorem dL_birth_1 : decode cL_birth 1 = .ok (.iload_n 1, 1) := by decide +kernel
theorem dL_birth_2 : decode cL_birth 2 = .ok (.iload_n 2, 1) := by decide +kernel
theorem dL_birth_3 : decode cL_birth 3 = .ok (.invokevirtual 76, 3) := by decide +kernel
theorem dL_birth_6 : decode cL_birth 6 = .ok (.ireturn, 1) := by decide +kernel
theorem dL_birth_7 : decode cL_birth 7 = .ok (.astore_n 3, 1) := by decide +kernel
theorem dL_birth_8 : decode cL_birth 8 = .ok (.ldc 15, 2) := by decide +kernel
theorem dL_birth_10 : decode cL_birth 10 = .ok (.ireturn, 1) := by decide +kernel
abbrev mL_birth : MI := (yL_birth, cL_birth, 4, some .int, 8, 200)
def hL_birth : List (Nat × Nat × Nat × Nat) := [(0, 6, 7, 13)]
theorem zi_L_birth : zinH mL_birth hL_birth 3 := ⟨zm3 54 (by decide +kernel) rfl, (zm1 0 (by decide +kernel) rfl), ⟨by decide, by decide⟩, by decide +kernel⟩
set_option maxRecDepth 100000 in
set_option maxHeartbeats 4000000 in
theorem w_birth (q : ZQ) (hq : q.1.stackTraces = false) (p1 p2 : Int32) (M : Mem) : Zd (zgX q) mL_birth hL_birth [.inr 0, .inl p1, .inl p2] M (eI (f_X4_birth p1 p2 M)) M := by
  have hm := k_X4_birth q hq p1 p2 M
  have ht : ∀ e : String, f_X4_birth p1 p2 M = .inr e → e = "java/lang/IllegalArgumentException" := fun e h => t_birth h
  revert hm ht
  generalize f_X4_birth p1 p2 M = r
  intro hm ht
  refine Zd.of (by decide) rfl zi_L_birth rfl (Nat.le_of_ble_eq_true rfl) (fun p e s m below meth c ls C hP hD hl => ?_)
  have hl : lv_has ls 4 [(0, .ref (q.2.2.2 0)), (1, .int p1), (2, .int p2)] := hl
  refine lv_aload_n C.1.1 C.1.2.1 dL_birth_0 rfl (lv_at hl 0 rfl) ?_
  refine lv_iload_n C.1.1 C.1.2.1 dL_birth_1 rfl (lv_at hl 1 rfl) ?_
  refine lv_iload_n C.1.1 C.1.2.1 dL_birth_2 rfl (lv_at hl 2 rfl) ?_
  obtain a | E0 := r
  · refine zh_run (rest := []) (N := M) C hP hD dL_birth_3 hm (zm3 55 (by decide +kernel) rfl) (zm3 56 (by decide +kernel) rfl) (zm3 57 (by decide +kernel) rfl) rfl rfl zi_X4_birth rfl ⟨Nat.le_of_ble_eq_true rfl, Nat.le_of_ble_eq_true rfl⟩ hl rfl (Nat.le_of_ble_eq_true rfl) ⟨Nat.le_of_ble_eq_true rfl, Nat.le_of_ble_eq_true rfl⟩ (fun E N' h => by cases h) (fun r N' H1 locs1 h hP1 hS1 => ?_)
    cases h
    exact zh_ret0 C hP1 hS1 dL_birth_6 ⟨by omega, by omega⟩
  · refine zh_run (rest := []) (N := M) C hP hD dL_birth_3 hm (zm3 55 (by decide +kernel) rfl) (zm3 56 (by decide +kernel) rfl) (zm3 57 (by decide +kernel) rfl) rfl rfl zi_X4_birth rfl ⟨Nat.le_of_ble_eq_true rfl, Nat.le_of_ble_eq_true rfl⟩ hl rfl (Nat.le_of_ble_eq_true rfl) ⟨Nat.le_of_ble_eq_true rfl, Nat.le_of_ble_eq_true rfl⟩ (fun E N' h => ?_) (fun r N' H1 locs1 h hP1 hS1 => by cases h)
    cases h
    have hE := ht _ rfl
    subst hE
    exact ⟨⟨7, ⟨[], [], 0, 6, 13, rfl, ⟨by decide, by decide⟩, by decide, (zm1 199 (by decide +kernel) rfl), List.mem_of_getElem? (i := 0) rfl, fun z hz => absurd hz List.not_mem_nil⟩, ⟨15, (by show Cond.constant RL 15 (eK "java/lang/IllegalArgumentException") ∈ zTB; rw [eK_IAE]; exact zc_IAE), Or.inr ⟨3, by decide, dL_birth_7, dL_birth_8, dL_birth_10⟩⟩⟩, rfl⟩
theorem dL_sum_0 : decode cL_sum 0 = .ok (.aload_n 0, 1) := by decide +kernel
theorem dL_sum_1 : decode cL_sum 1 = .ok (.iload_n 1, 1) := by decide +kernel
theorem dL_sum_2 : decode cL_sum 2 = .ok (.invokevirtual 79, 3) := by decide +kernel
theorem dL_sum_5 : decode cL_sum 5 = .ok (.ireturn, 1) := by decide +kernel
theorem dL_sum_6 : decode cL_sum 6 = .ok (.astore_n 2, 1) := by decide +kernel
theorem dL_sum_7 : decode cL_sum 7 = .ok (.ldc 15, 2) := by decide +kernel
theorem dL_sum_9 : decode cL_sum 9 = .ok (.ireturn, 1) := by decide +kernel
abbrev mL_sum : MI := (yL_sum, cL_sum, 3, some .int, 8, 200)
def hL_sum : List (Nat × Nat × Nat × Nat) := [(0, 5, 6, 13)]
theorem zi_L_sum : zinH mL_sum hL_sum 2 := ⟨zm3 61 (by decide +kernel) rfl, (zm1 0 (by decide +kernel) rfl), ⟨by decide, by decide⟩, by decide +kernel⟩
set_option maxRecDepth 100000 in
set_option maxHeartbeats 4000000 in
theorem w_sum (q : ZQ) (hq : q.1.stackTraces = false) (p1 : Int32) (M : Mem) : Zd (zgX q) mL_sum hL_sum [.inr 0, .inl p1] M (eI (f_X4_checksum p1 M)) M := by
  have hm := k_X4_checksum q hq p1 M
  have ht : ∀ e : String, f_X4_checksum p1 M = .inr e → e = "java/lang/IllegalArgumentException" := fun e h => t_checksum h
  revert hm ht
  generalize f_X4_checksum p1 M = r
  intro hm ht
  refine Zd.of (by decide) rfl zi_L_sum rfl (Nat.le_of_ble_eq_true rfl) (fun p e s m below meth c ls C hP hD hl => ?_)
  have hl : lv_has ls 3 [(0, .ref (q.2.2.2 0)), (1, .int p1)] := hl
  refine lv_aload_n C.1.1 C.1.2.1 dL_sum_0 rfl (lv_at hl 0 rfl) ?_
  refine lv_iload_n C.1.1 C.1.2.1 dL_sum_1 rfl (lv_at hl 1 rfl) ?_
  obtain a | E0 := r
  · refine zh_run (rest := []) (N := M) C hP hD dL_sum_2 hm (zm3 62 (by decide +kernel) rfl) (zm3 63 (by decide +kernel) rfl) (zm3 64 (by decide +kernel) rfl) rfl rfl zi_X4_checksum rfl ⟨Nat.le_of_ble_eq_true rfl, Nat.le_of_ble_eq_true rfl⟩ hl rfl (Nat.le_of_ble_eq_true rfl) ⟨Nat.le_of_ble_eq_true rfl, Nat.le_of_ble_eq_true rfl⟩ (fun E N' h => by cases h) (fun r N' H1 locs1 h hP1 hS1 => ?_)
    cases h
    exact zh_ret0 C hP1 hS1 dL_sum_5 ⟨by omega, by omega⟩
  · refine zh_run (rest := []) (N := M) C hP hD dL_sum_2 hm (zm3 62 (by decide +kernel) rfl) (zm3 63 (by decide +kernel) rfl) (zm3 64 (by decide +kernel) rfl) rfl rfl zi_X4_checksum rfl ⟨Nat.le_of_ble_eq_true rfl, Nat.le_of_ble_eq_true rfl⟩ hl rfl (Nat.le_of_ble_eq_true rfl) ⟨Nat.le_of_ble_eq_true rfl, Nat.le_of_ble_eq_true rfl⟩ (fun E N' h => ?_) (fun r N' H1 locs1 h hP1 hS1 => by cases h)
    cases h
    have hE := ht _ rfl
    subst hE
    exact ⟨⟨6, ⟨[], [], 0, 5, 13, rfl, ⟨by decide, by decide⟩, by decide, (zm1 199 (by decide +kernel) rfl), List.mem_of_getElem? (i := 0) rfl, fun z hz => absurd hz List.not_mem_nil⟩, ⟨15, (by show Cond.constant RL 15 (eK "java/lang/IllegalArgumentException") ∈ zTB; rw [eK_IAE]; exact zc_IAE), Or.inr ⟨2, by decide, dL_sum_6, dL_sum_7, dL_sum_9⟩⟩⟩, rfl⟩
end
