/-! ===== by program (wip/whole/start.py): what the law has at its entry ===== -/
section
theorem zTB_in {w : Cond} (h : w ∈ zTB) : w ∈ lw_tbl := (List.mem_filter.mp h).1
theorem lt1 {w : Cond} (i : Nat) (h : tables_1_1[i]? = some w) : w ∈ lw_tbl := List.mem_append_right _ (List.mem_append_left _ (List.mem_of_getElem? h))
theorem lt2 {w : Cond} (i : Nat) (h : tables_1_2[i]? = some w) : w ∈ lw_tbl := List.mem_append_right _ (List.mem_append_right _ (List.mem_append_left _ (List.mem_of_getElem? h)))
theorem lt3 {w : Cond} (i : Nat) (h : tables_1_3[i]? = some w) : w ∈ lw_tbl := List.mem_append_right _ (List.mem_append_right _ (List.mem_append_right _ (List.mem_append_left _ (List.mem_of_getElem? h))))
theorem lt4 {w : Cond} (i : Nat) (h : tables_1_4[i]? = some w) : w ∈ lw_tbl := List.mem_append_right _ (List.mem_append_right _ (List.mem_append_right _ (List.mem_append_right _ (List.mem_append_left _ (List.mem_of_getElem? h)))))
theorem lt5 {w : Cond} (i : Nat) (h : tables_1_5[i]? = some w) : w ∈ lw_tbl := List.mem_append_right _ (List.mem_append_right _ (List.mem_append_right _ (List.mem_append_right _ (List.mem_append_right _ (List.mem_of_getElem? h)))))
theorem st_NW : ∀ w ∈ zNW, w ∈ lw_tbl ∧ w.onTables = true := by
  unfold zNW
  simp only [List.forall_mem_cons, List.not_mem_nil, false_imp_iff, implies_true, and_true]
  exact ⟨⟨(lt1 77 (by decide +kernel)), rfl⟩, ⟨(lt1 190 (by decide +kernel)), rfl⟩, ⟨(lt2 198 (by decide +kernel)), rfl⟩, ⟨(lt2 191 (by decide +kernel)), rfl⟩, ⟨(lt1 168 (by decide +kernel)), rfl⟩, ⟨(lt1 171 (by decide +kernel)), rfl⟩, ⟨(lt2 214 (by decide +kernel)), rfl⟩, ⟨(lt2 231 (by decide +kernel)), rfl⟩, ⟨(lt2 223 (by decide +kernel)), rfl⟩, ⟨(lt2 226 (by decide +kernel)), rfl⟩, ⟨(lt2 228 (by decide +kernel)), rfl⟩, ⟨(lt1 134 (by decide +kernel)), rfl⟩, ⟨(lt2 205 (by decide +kernel)), rfl⟩, ⟨(lt2 86 (by decide +kernel)), rfl⟩, ⟨(lt1 161 (by decide +kernel)), rfl⟩⟩
theorem st_CW : ∀ w ∈ zCW, w ∈ lw_tbl ∧ w.onTables = true := by
  unfold zCW
  simp only [List.forall_mem_cons, List.not_mem_nil, false_imp_iff, implies_true, and_true]
  exact ⟨⟨(lt2 7 (by decide +kernel)), rfl⟩, ⟨(lt2 122 (by decide +kernel)), rfl⟩, ⟨(lt2 150 (by decide +kernel)), rfl⟩, ⟨(lt2 9 (by decide +kernel)), rfl⟩, ⟨(lt2 11 (by decide +kernel)), rfl⟩, ⟨(lt2 13 (by decide +kernel)), rfl⟩⟩
theorem st_ST : ∀ q ∈ zST, Cond.stringRef RX4 q.1 q.2 ∈ lw_tbl ∧ Cond.exactly (Term.string RX4 q.1) "java/lang/String" ∈ flatC (Jvm.Cond.and given_1 narrow_1) := by
  unfold zST
  simp only [List.forall_mem_cons, List.not_mem_nil, false_imp_iff, implies_true, and_true]
  exact ⟨⟨(lt2 46 (by decide +kernel)), (List.mem_of_getElem? (i := 30) (by decide +kernel))⟩, ⟨(lt2 98 (by decide +kernel)), (List.mem_of_getElem? (i := 70) (by decide +kernel))⟩, ⟨(lt2 106 (by decide +kernel)), (List.mem_of_getElem? (i := 107) (by decide +kernel))⟩, ⟨(lt2 115 (by decide +kernel)), (List.mem_of_getElem? (i := 143) (by decide +kernel))⟩, ⟨(lt2 129 (by decide +kernel)), (List.mem_of_getElem? (i := 179) (by decide +kernel))⟩, ⟨(lt2 157 (by decide +kernel)), (List.mem_of_getElem? (i := 211) (by decide +kernel))⟩, ⟨(lt3 0 (by decide +kernel)), (List.mem_of_getElem? (i := 257) (by decide +kernel))⟩, ⟨(lt3 79 (by decide +kernel)), (List.mem_of_getElem? (i := 303) (by decide +kernel))⟩, ⟨(lt3 81 (by decide +kernel)), (List.mem_of_getElem? (i := 344) (by decide +kernel))⟩, ⟨(lt3 93 (by decide +kernel)), (List.mem_of_getElem? (i := 387) (by decide +kernel))⟩, ⟨(lt3 125 (by decide +kernel)), (List.mem_of_getElem? (i := 418) (by decide +kernel))⟩, ⟨(lt3 128 (by decide +kernel)), (List.mem_of_getElem? (i := 468) (by decide +kernel))⟩, ⟨(lt3 137 (by decide +kernel)), (List.mem_of_getElem? (i := 523) (by decide +kernel))⟩, ⟨(lt3 146 (by decide +kernel)), (List.mem_of_getElem? (i := 558) (by decide +kernel))⟩, ⟨(lt3 154 (by decide +kernel)), (List.mem_of_getElem? (i := 605) (by decide +kernel))⟩, ⟨(lt3 179 (by decide +kernel)), (List.mem_of_getElem? (i := 645) (by decide +kernel))⟩, ⟨(lt3 187 (by decide +kernel)), (List.mem_of_getElem? (i := 686) (by decide +kernel))⟩⟩
/-- the kinds of the world, at the law's entry -/
theorem st_K {args : Array Value} {s : State} (hts : ∀ w ∈ lw_tbl, w.before args s = true) (hgv : (Jvm.Cond.and given_1 narrow_1).before args s = true) (l : Launch) : ∃ q : KQ, q.1 = l ∧ zK (kg0 q) s := by
  have ht : ∀ w ∈ zTB, w.before args s = true := fun w hw => hts w (zTB_in hw)
  have hs := flat_of_before _ hgv
  obtain ⟨c0, i0, h0⟩ := u_known (C := RX0) (T := TX0) (N := 4) (n := 4) ht zu_X0 (ht _ (zm1 23 (by decide +kernel) rfl))
  obtain ⟨c1, i1, h1⟩ := u_known (C := RX1) (T := TX1) (N := 4) (n := 4) ht zu_X1 (ht _ (zm1 84 (by decide +kernel) rfl))
  obtain ⟨c2, i2, h2⟩ := u_known (C := RX2) (T := TX2) (N := 2) (n := 2) ht zu_X2 (ht _ (zm1 69 (by decide +kernel) rfl))
  obtain ⟨c3, i3, h3⟩ := u_known (C := RX3) (T := TX3) (N := 5) (n := 5) ht zu_X3 (ht _ (zm1 44 (by decide +kernel) rfl))
  obtain ⟨c4, i4, h4⟩ := u_known (C := RX4) (T := TX4) (N := 6) (n := 6) ht zu_X4 (ht _ (zm1 15 (by decide +kernel) rfl))
  obtain ⟨c5, i5, h5⟩ := u_known (C := RX5) (T := TX5) (N := 20) (n := 20) ht zu_X5 (ht _ (zm3 210 (by decide +kernel) rfl))
  obtain ⟨cI, kI, pI, aI1, aI2, aI3⟩ := Cond.arrayClass_spec (ht (.arrayClass .int) (zm1 42 (by decide +kernel) rfl))
  obtain ⟨cB, kB, pB, aB1, aB2, aB3⟩ := Cond.arrayClass_spec (ht (.arrayClass .boolean) (zm1 41 (by decide +kernel) rfl))
  refine ⟨(l, (fun k => match k with | 0 => c0 | 1 => c1 | 2 => c2 | 3 => c3 | 4 => c4 | _ => c5, fun k => match k with | 0 => i0 | 1 => i1 | 2 => i2 | 3 => i3 | 4 => i4 | _ => i5), (cI, cB)), rfl, ⟨?_, ?_⟩, ?_, ?_, ?_⟩
  · intro k q hq
    match k, hq with
    | 0, hq => cases hq; exact h0
    | 1, hq => cases hq; exact h1
    | 2, hq => cases hq; exact h2
    | 3, hq => cases hq; exact h3
    | 4, hq => cases hq; exact h4
    | 5, hq => cases hq; exact h5
    | k + 6, hq => simp [vwCl] at hq
  · intro k q hq
    match k, hq with
    | 0, hq => cases hq; exact ⟨fun n z => ⟨fun k h => (by cases h), kI, aI2, pI, aI3⟩, aI1⟩
    | 1, hq => cases hq; exact ⟨fun n z => ⟨fun k h => (by cases h), kB, aB2, pB, aB3⟩, aB1⟩
    | k + 2, hq => simp at hq
  · exact fun w hw => va_Nw.of (st_NW w hw).2 (hts w (st_NW w hw).1)
  · exact fun w hw => va_Nw.of (st_CW w hw).2 (hts w (st_CW w hw).1)
  · intro q hq
    obtain ⟨a, c, cell, k, e1, -⟩ := Cond.exactly_spec (first := s) (o := none) (idx := []) (hs _ (st_ST q hq).2)
    exact ⟨a, vk_R.of (hts _ (st_ST q hq).1) e1⟩
theorem st_E {args : Array Value} {s : State} (hts : ∀ w ∈ lw_tbl, w.before args s = true) (hgv : (Jvm.Cond.and given_1 narrow_1).before args s = true) : zE (fun q => s.heap.size ≤ q) s s.heap := by
  have hs := flat_of_before _ hgv
  have hA : ∀ a : Nat, a < s.heap.size → ¬ s.heap.size ≤ a := fun a h => Nat.not_le.mpr h
  exact ⟨vx_Zqof (hts _ (lt2 32 (by decide +kernel))) (hts _ (lt1 8 (by decide +kernel))) (hs _ (List.mem_of_getElem? (i := 4) (by decide +kernel))) hA, vx_Zqof (hts _ (lt2 34 (by decide +kernel))) (hts _ (lt1 8 (by decide +kernel))) (hs _ (List.mem_of_getElem? (i := 5) (by decide +kernel))) hA⟩
theorem st_Nc {args : Array Value} {s : State} (hgv : (Jvm.Cond.and given_1 narrow_1).before args s = true) : zNc s := by
  have hs := flat_of_before _ hgv
  exact ⟨va_Nc.of (hs _ (List.mem_of_getElem? (i := 12) (by decide +kernel))), va_Nc.of (hs _ (List.mem_of_getElem? (i := 13) (by decide +kernel)))⟩
end
