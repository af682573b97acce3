/-! ===== PURE: a reference's memory for any of the class's: what keeps zI ===== -/
section
def nR (P : Mem) : Mem := fun a => match a with
  | 0 => fun i => if i = 1 then P 3 1 else if i = 2 then P 0 5 else 0
  | 1 => P 5 | 2 => P 10 | 3 => P 15 | 4 => P 11 | 5 => P 12 | 6 => P 14 | 7 => P 13 | 8 => P 6
  | 9 => fun i => P 7 (120 * (i % 2) + i / 2) | 10 => P 8 | 11 => P 9 | _ => fun _ => 0
theorem zR_n (P : Mem) : zR 0 P (nR P) := by
  refine ⟨fun _ _ => rfl, fun _ _ => rfl, fun _ _ => rfl, fun _ _ => rfl, fun _ _ => rfl, fun _ _ => rfl, fun _ _ => rfl, fun _ _ => rfl, fun k s hk hs => ?_, fun _ _ => rfl, fun _ _ => rfl, rfl, ?_⟩
  · show P 7 (120 * s + k) = P 7 (120 * ((2 * k + s) % 2) + (2 * k + s) / 2)
    rw [show (2 * k + s) % 2 = s by omega, show (2 * k + s) / 2 = k by omega]
  · show P 0 5 + 0 = P 0 5
    rw [Int32.add_zero]
theorem zRI_n {n : Int} {P : Mem} (h : zI n P) : zRI n 0 P (nR P) := ⟨zR_n P, h⟩
theorem g_write {n : Int} {P : Mem} (h : zI n P) (a b v : Int32) : zI n (f_X4_write a b v P).2 := (r_write (zRI_n h)).1.2
theorem g_punch {n : Int} {P : Mem} (h : zI n P) (a b v : Int32) : zI n (f_X4_punch a b v P).2 := (r_punch (zRI_n h)).1.2
theorem g_setCopies {n : Int} {P : Mem} (h : zI n P) (a b : Int32) : zI n (f_X4_setCopies a b P).2 := (r_setCopies (zRI_n h)).1.2
theorem g_read {n : Int} {P : Mem} (h : zI n P) (a b : Int32) : zI n (f_X4_read a b P).2 := (r_read (zRI_n h)).1.2
theorem g_abandon {n : Int} {P : Mem} (h : zI n P) : zI n (f_X4_abandon P).2 := (r_abandon (zRI_n h)).1.2
theorem g_offline {n : Int} {P : Mem} (h : zI n P) (a b : Int32) : zI n (f_X4_offline a b P).2 := (r_offline (zRI_n h)).1.2
theorem g_online {n : Int} {P : Mem} (h : zI n P) (a b : Int32) : zI n (f_X4_online a b P).2 := (r_online (zRI_n h)).1.2
theorem g_spoil {n : Int} {P : Mem} (h : zI n P) (a b c : Int32) : zI n (f_X4_spoil a b c P).2 := (r_spoil (zRI_n h)).1.2
theorem g_scrub {n : Int} {P : Mem} (h : zI n P) : zI n (f_X4_scrub P).2 := (r_scrub (zRI_n h)).1.2
theorem g_sync {n : Int} {P : Mem} (h : zI n P) (hn : n + 1 < 2 ^ 31) : zI (n + 1) (f_X4_sync P).2 := (r_sync (zRI_n h) hn).1.2
/-- only the cells' marks, the sides and what is healed so far differ -/
def ST (P P' : Mem) : Prop := ∀ j, j ≠ 0 → j ≠ 7 → j ≠ 8 → j ≠ 9 → P' j = P j
theorem ST.refl (P : Mem) : ST P P := fun _ _ _ _ _ => rfl
theorem ST.trans {A B C : Mem} (h : ST A B) (k : ST B C) : ST A C := fun j a b c d => (k j a b c d).trans (h j a b c d)
theorem ST.of {A B : Mem} (h : sK A B) : ST A B := fun j _ b _ _ => h j b
theorem ST.up {A : Mem} {k i : Nat} {v : Int32} (h : k = 0 ∨ k = 7 ∨ k = 8 ∨ k = 9) : ST A (mup A k i v) := fun j a b c d => by
  unfold mup
  exact mset_ne (by omega)
theorem sK_mark (x s : Int32) (b : Bool) (M : Mem) : sK M (f_X0_mark x s b M) := by
  unfold f_X0_mark
  split
  · intro j hj; unfold mup; rw [mset_ne hj]
  · exact sK.refl M
theorem st_spoil (a b c : Int32) (P : Mem) : ST P (f_X4_spoil a b c P).2 := by
  unfold f_X4_spoil
  simp only [zlet]
  repeat' split
  all_goals first | exact ST.refl P | exact ST.of (sK_mark _ _ _ P)
theorem st_takeOff (a b c : Int32) (P : Mem) : ST P (f_X0_takeOffline a b c P) := by
  unfold f_X0_takeOffline
  by_cases h : f_X4_isSideOfMirror a b = true
  · rw [if_pos h]; exact (ST.up (Or.inr (Or.inr (Or.inl rfl)))).trans (ST.up (Or.inr (Or.inr (Or.inr rfl))))
  · rw [if_neg h]; exact ST.refl P
theorem st_bringOn (a b : Int32) (P : Mem) : ST P (f_X0_bringOnline a b P) := by
  unfold f_X0_bringOnline
  by_cases h : f_X4_isSideOfMirror a b = true
  · rw [if_pos h]; exact ST.up (Or.inr (Or.inr (Or.inl rfl)))
  · rw [if_neg h]; exact ST.refl P
theorem st_offline (a b : Int32) (P : Mem) : ST P (f_X4_offline a b P).2 := by
  unfold f_X4_offline
  simp only [zlet]
  by_cases h : f_X4_isSideOfMirror a b = true
  · rw [if_pos h, u_loff]
    by_cases h0 : f_X0_hasOnline a 0 P = true
    · rw [if_pos h0]
      by_cases h1 : f_X0_hasOnline a 1 P = true
      · rw [if_pos h1]; exact st_takeOff _ _ _ _
      · rw [if_neg h1]; exact ST.refl P
    · rw [if_neg h0]; exact ST.refl P
  · rw [if_neg h]; exact ST.refl P
theorem sK_cts (x1 x2 x3 : Int32) : ∀ (k : Nat) (v w : Int32) (M : Mem), sK M (l_X4_copyToSide_6 x1 x2 x3 k v w M).2.2 := by
  intro k
  induction k with
  | zero => intro v w M; exact sK.refl M
  | succ k ih =>
    intro v w M
    show sK M (b_X4_copyToSide_6 x1 x2 x3 (l_X4_copyToSide_6 x1 x2 x3 k) v w M).2.2
    unfold b_X4_copyToSide_6
    simp only [zlet]
    repeat' split
    all_goals first | exact sK.refl M | exact ih _ _ _ | exact (sK_mark _ _ _ M).trans (ih _ _ _)
theorem sK_copy (a b c : Int32) (M : Mem) : sK M (f_X4_copyToSide a b c M).2 := sK_cts a b c 3 0 0 M
theorem sK_rsf (x1 x2 x3 x4 : Int32) : ∀ (k : Nat) (v w : Int32) (M : Mem), sK M (l_X4_resilverFile_26 x1 x2 x3 x4 k v w M).2.2 := by
  intro k
  induction k with
  | zero => intro v w M; exact sK.refl M
  | succ k ih =>
    intro v w M
    show sK M (b_X4_resilverFile_26 x1 x2 x3 x4 (l_X4_resilverFile_26 x1 x2 x3 x4 k) v w M).2.2
    unfold b_X4_resilverFile_26
    simp only [zlet]
    repeat' split
    all_goals first | exact sK.refl M | exact ih _ _ _ | exact (sK_copy _ _ _ M).trans (ih _ _ _)
theorem sK_rs (x1 x2 x3 : Int32) : ∀ (k : Nat) (v w : Int32) (M : Mem), sK M (l_X4_resilver_38 x1 x2 x3 k v w M).2.2 := by
  intro k
  induction k with
  | zero => intro v w M; exact sK.refl M
  | succ k ih =>
    intro v w M
    show sK M (b_X4_resilver_38 x1 x2 x3 (l_X4_resilver_38 x1 x2 x3 k) v w M).2.2
    unfold b_X4_resilver_38
    simp only [zlet]
    have hf : sK M (f_X4_resilverFile w x1 x2 M).2 := by
      unfold f_X4_resilverFile
      simp only [zlet]
      exact (sK_copy _ _ _ M).trans (sK_rsf _ _ _ _ _ _ _ _)
    repeat' split
    all_goals first | exact sK.refl M | exact ih _ _ _ | exact hf.trans (ih _ _ _)
theorem sK_resilver (a b : Int32) (P : Mem) : sK P (f_X4_resilver a b P).2 := by
  unfold f_X4_resilver
  simp only [zlet]
  by_cases h : f_X0_outageOf a b P < f_X3_birthOf 52 P
  · rw [if_pos h]; exact (sK_copy _ _ _ P).trans (sK_rs _ _ _ _ _ _ _)
  · rw [if_neg h]; exact sK.refl P
theorem st_online (a b : Int32) (P : Mem) : ST P (f_X4_online a b P).2 := by
  unfold f_X4_online
  simp only [zlet]
  by_cases h : f_X4_isSideOfMirror a b = true
  · rw [if_pos h]
    by_cases h1 : f_X0_hasOnline a b P = true
    · rw [if_pos h1]; exact ST.refl P
    · rw [if_neg h1]; exact (ST.of (sK_resilver a b P)).trans (st_bringOn a b _)
  · rw [if_neg h]; exact ST.refl P
end
