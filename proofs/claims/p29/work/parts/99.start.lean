/-! ===== by program (wip/p29/start.py): what the law has at its entry ===== -/
section
theorem zTB_in {w : Cond} (h : w ∈ zTB) : w ∈ lw_tbl := (List.mem_filter.mp h).1
theorem lt1 {w : Cond} (i : Nat) (h : tables_1_1[i]? = some w) : w ∈ lw_tbl := List.mem_append_right _ (List.mem_append_left _ (List.mem_of_getElem? h))
theorem lt2 {w : Cond} (i : Nat) (h : tables_1_2[i]? = some w) : w ∈ lw_tbl := List.mem_append_right _ (List.mem_append_right _ (List.mem_append_left _ (List.mem_of_getElem? h)))
theorem lt3 {w : Cond} (i : Nat) (h : tables_1_3[i]? = some w) : w ∈ lw_tbl := List.mem_append_right _ (List.mem_append_right _ (List.mem_append_right _ (List.mem_append_left _ (List.mem_of_getElem? h))))
theorem lt4 {w : Cond} (i : Nat) (h : tables_1_4[i]? = some w) : w ∈ lw_tbl := List.mem_append_right _ (List.mem_append_right _ (List.mem_append_right _ (List.mem_append_right _ (List.mem_of_getElem? h))))
theorem st_NW : ∀ w ∈ zNW, w ∈ lw_tbl ∧ w.onTables = true := by
  unfold zNW
  simp only [List.forall_mem_cons, List.not_mem_nil, false_imp_iff, implies_true, and_true]
  exact ⟨⟨(lt1 76 (by decide +kernel)), rfl⟩, ⟨(lt1 162 (by decide +kernel)), rfl⟩, ⟨(lt2 215 (by decide +kernel)), rfl⟩, ⟨(lt3 11 (by decide +kernel)), rfl⟩, ⟨(lt1 140 (by decide +kernel)), rfl⟩, ⟨(lt1 143 (by decide +kernel)), rfl⟩, ⟨(lt3 108 (by decide +kernel)), rfl⟩, ⟨(lt3 121 (by decide +kernel)), rfl⟩, ⟨(lt3 117 (by decide +kernel)), rfl⟩, ⟨(lt3 118 (by decide +kernel)), rfl⟩, ⟨(lt3 120 (by decide +kernel)), rfl⟩, ⟨(lt2 49 (by decide +kernel)), rfl⟩, ⟨(lt3 99 (by decide +kernel)), rfl⟩, ⟨(lt2 60 (by decide +kernel)), rfl⟩, ⟨(lt1 133 (by decide +kernel)), rfl⟩⟩
theorem st_CW : ∀ w ∈ zCW, w ∈ lw_tbl ∧ w.onTables = true := by
  unfold zCW
  simp only [List.forall_mem_cons, List.not_mem_nil, false_imp_iff, implies_true, and_true]
  exact ⟨⟨(lt1 215 (by decide +kernel)), rfl⟩, ⟨(lt2 97 (by decide +kernel)), rfl⟩, ⟨(lt2 126 (by decide +kernel)), rfl⟩, ⟨(lt1 217 (by decide +kernel)), rfl⟩, ⟨(lt1 219 (by decide +kernel)), rfl⟩, ⟨(lt1 221 (by decide +kernel)), rfl⟩⟩
theorem st_ST : ∀ q ∈ zST, Cond.stringRef RX4 q.1 q.2 ∈ lw_tbl ∧ Cond.exactly (Term.string RX4 q.1) "java/lang/String" ∈ flatC (Jvm.Cond.and given_1 narrow_1) := by
  unfold zST
  simp only [List.forall_mem_cons, List.not_mem_nil, false_imp_iff, implies_true, and_true]
  exact ⟨⟨(lt2 14 (by decide +kernel)), (List.mem_of_getElem? (i := 27) (by decide +kernel))⟩, ⟨(lt2 73 (by decide +kernel)), (List.mem_of_getElem? (i := 67) (by decide +kernel))⟩, ⟨(lt2 81 (by decide +kernel)), (List.mem_of_getElem? (i := 104) (by decide +kernel))⟩, ⟨(lt2 90 (by decide +kernel)), (List.mem_of_getElem? (i := 140) (by decide +kernel))⟩, ⟨(lt2 104 (by decide +kernel)), (List.mem_of_getElem? (i := 176) (by decide +kernel))⟩, ⟨(lt2 133 (by decide +kernel)), (List.mem_of_getElem? (i := 208) (by decide +kernel))⟩, ⟨(lt3 130 (by decide +kernel)), (List.mem_of_getElem? (i := 667) (by decide +kernel))⟩, ⟨(lt2 156 (by decide +kernel)), (List.mem_of_getElem? (i := 254) (by decide +kernel))⟩, ⟨(lt2 158 (by decide +kernel)), (List.mem_of_getElem? (i := 294) (by decide +kernel))⟩, ⟨(lt2 170 (by decide +kernel)), (List.mem_of_getElem? (i := 336) (by decide +kernel))⟩, ⟨(lt2 207 (by decide +kernel)), (List.mem_of_getElem? (i := 366) (by decide +kernel))⟩, ⟨(lt2 218 (by decide +kernel)), (List.mem_of_getElem? (i := 415) (by decide +kernel))⟩, ⟨(lt2 227 (by decide +kernel)), (List.mem_of_getElem? (i := 469) (by decide +kernel))⟩, ⟨(lt2 238 (by decide +kernel)), (List.mem_of_getElem? (i := 503) (by decide +kernel))⟩, ⟨(lt3 6 (by decide +kernel)), (List.mem_of_getElem? (i := 549) (by decide +kernel))⟩, ⟨(lt3 36 (by decide +kernel)), (List.mem_of_getElem? (i := 588) (by decide +kernel))⟩, ⟨(lt3 44 (by decide +kernel)), (List.mem_of_getElem? (i := 628) (by decide +kernel))⟩⟩
/-- the kinds of the world, at the law's entry -/
theorem st_K {args : Array Value} {s : State} (hts : ∀ w ∈ lw_tbl, w.before args s = true) (hgv : (Jvm.Cond.and given_1 narrow_1).before args s = true) (l : Launch) : ∃ q : KQ, q.1 = l ∧ zK (kg0 q) s := by
  have ht : ∀ w ∈ zTB, w.before args s = true := fun w hw => hts w (zTB_in hw)
  have hs := flat_of_before _ hgv
  obtain ⟨c0, i0, h0⟩ := u_known (C := RX0) (T := TX0) (N := 4) (n := 4) ht zu_X0 (ht _ (zm1 22 (by decide +kernel) rfl))
  obtain ⟨c1, i1, h1⟩ := u_known (C := RX1) (T := TX1) (N := 4) (n := 4) ht zu_X1 (ht _ (zm1 83 (by decide +kernel) rfl))
  obtain ⟨c2, i2, h2⟩ := u_known (C := RX2) (T := TX2) (N := 2) (n := 2) ht zu_X2 (ht _ (zm1 68 (by decide +kernel) rfl))
  obtain ⟨c3, i3, h3⟩ := u_known (C := RX3) (T := TX3) (N := 5) (n := 5) ht zu_X3 (ht _ (zm1 43 (by decide +kernel) rfl))
  obtain ⟨c4, i4, h4⟩ := u_known (C := RX4) (T := TX4) (N := 6) (n := 6) ht zu_X4 (ht _ (zm1 14 (by decide +kernel) rfl))
  obtain ⟨cI, kI, pI, aI1, aI2, aI3⟩ := Cond.arrayClass_spec (ht (.arrayClass .int) (zm1 41 (by decide +kernel) rfl))
  obtain ⟨cB, kB, pB, aB1, aB2, aB3⟩ := Cond.arrayClass_spec (ht (.arrayClass .boolean) (zm1 40 (by decide +kernel) rfl))
  obtain ⟨cL, kL, pL, aL1, aL2, aL3⟩ := Cond.arrayClass_spec (ht (.arrayClass .long) (zm3 237 (by decide +kernel) rfl))
  refine ⟨(l, (fun k => match k with | 0 => c0 | 1 => c1 | 2 => c2 | 3 => c3 | _ => c4, fun k => match k with | 0 => i0 | 1 => i1 | 2 => i2 | 3 => i3 | _ => i4), (cI, cB, cL)), rfl, ⟨?_, ?_⟩, ?_, ?_, ⟨va_Nc.of (hs _ (List.mem_of_getElem? (i := 11) (by decide +kernel))), va_Nc.of (hs _ (List.mem_of_getElem? (i := 12) (by decide +kernel)))⟩, ?_⟩
  · intro k q hq
    match k, hq with
    | 0, hq => cases hq; exact h0
    | 1, hq => cases hq; exact h1
    | 2, hq => cases hq; exact h2
    | 3, hq => cases hq; exact h3
    | 4, hq => cases hq; exact h4
    | k + 5, hq => simp [vwCl] at hq
  · intro k q hq
    match k, hq with
    | 0, hq => cases hq; exact ⟨fun n z => ⟨fun k h => (by cases h), kI, aI2, pI, aI3⟩, aI1⟩
    | 1, hq => cases hq; exact ⟨fun n z => ⟨fun k h => (by cases h), kB, aB2, pB, aB3⟩, aB1⟩
    | 2, hq => cases hq; exact ⟨fun n z => ⟨fun k h => (by cases h), kL, aL2, pL, aL3⟩, aL1⟩
    | k + 3, hq => simp at hq
  · exact fun w hw => va_Nw.of (st_NW w hw).2 (hts w (st_NW w hw).1)
  · exact fun w hw => va_Nw.of (st_CW w hw).2 (hts w (st_CW w hw).1)
  · intro q hq
    obtain ⟨a, c, cell, k, e1, -⟩ := Cond.exactly_spec (first := s) (o := none) (idx := []) (hs _ (st_ST q hq).2)
    exact ⟨a, vk_R.of (hts _ (st_ST q hq).1) e1⟩
theorem st_E {args : Array Value} {s : State} (hts : ∀ w ∈ lw_tbl, w.before args s = true) (hgv : (Jvm.Cond.and given_1 narrow_1).before args s = true) : zE (fun q => s.heap.size ≤ q) s s.heap := by
  have hs := flat_of_before _ hgv
  have hA : ∀ a : Nat, a < s.heap.size → ¬ s.heap.size ≤ a := fun a h => Nat.not_le.mpr h
  exact ⟨vx_Zqof (hts _ (lt2 0 (by decide +kernel))) (hts _ (lt1 7 (by decide +kernel))) (hs _ (List.mem_of_getElem? (i := 4) (by decide +kernel))) hA, vx_Zqof (hts _ (lt2 2 (by decide +kernel))) (hts _ (lt1 7 (by decide +kernel))) (hs _ (List.mem_of_getElem? (i := 5) (by decide +kernel))) hA⟩
end
