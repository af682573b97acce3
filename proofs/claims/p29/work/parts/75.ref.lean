/-! ===== PURE: what the face answers, refused calls first ===== -/
section
theorem x_write {a b c : Int32} {P : Mem} (h : ¬ (((0 ≤ a.toInt ∧ a.toInt < 4) ∧ 0 ≤ b.toInt ∧ b.toInt < 12) ∧ 1 ≤ c.toInt ∧ c.toInt ≤ 9999)) : f_X4_write a b c P = (.inr "java/lang/IllegalArgumentException", P) := by
  unfold f_X4_write
  by_cases h1 : f_X4_isBlockOfFile a b = true
  · rw [if_pos h1]
    by_cases h2 : c < 1
    · rw [if_pos h2]
    · rw [if_neg h2]
      by_cases h3 : c ≤ 9999
      · rw [Int32.lt_iff_toInt_lt] at h2
        rw [Int32.le_iff_toInt_le] at h3
        simp only [Int32.reduceToInt] at h2 h3
        exact absurd ⟨q_isBlockOfFile.mp h1, by omega, h3⟩ h
      · rw [if_neg h3]
  · rw [if_neg h1]
theorem x_punch {a b c : Int32} {P : Mem} (h : ¬ (((0 ≤ a.toInt ∧ a.toInt < 4) ∧ 0 ≤ b.toInt ∧ b.toInt < 12) ∧ b.toInt ≤ c.toInt ∧ c.toInt < 12)) : f_X4_punch a b c P = (.inr "java/lang/IllegalArgumentException", P) := by
  unfold f_X4_punch
  by_cases h1 : f_X4_isBlockOfFile a b = true
  · rw [if_pos h1]
    by_cases h2 : f_X4_isBlock c = true
    · rw [if_pos h2]
      by_cases h3 : b ≤ c
      · rw [Int32.le_iff_toInt_le] at h3
        exact absurd ⟨q_isBlockOfFile.mp h1, h3, (q_isBlock.mp h2).2⟩ h
      · rw [if_neg h3]
    · rw [if_neg h2]
  · rw [if_neg h1]
theorem x_setCopies {a b : Int32} {P : Mem} (h : ¬ ((0 ≤ a.toInt ∧ a.toInt < 4) ∧ 1 ≤ b.toInt ∧ b.toInt ≤ 2)) : f_X4_setCopies a b P = (.inr "java/lang/IllegalArgumentException", P) := by
  unfold f_X4_setCopies
  by_cases h1 : f_X4_isFile a = true
  · rw [if_pos h1]
    by_cases h2 : b < 1
    · rw [if_pos h2]
    · rw [if_neg h2]
      by_cases h3 : b ≤ 2
      · rw [Int32.lt_iff_toInt_lt] at h2
        rw [Int32.le_iff_toInt_le] at h3
        simp only [Int32.reduceToInt] at h2 h3
        exact absurd ⟨q_isFile.mp h1, by omega, h3⟩ h
      · rw [if_neg h3]
  · rw [if_neg h1]
theorem x_nbf {a b : Int32} (h : ¬ ((0 ≤ a.toInt ∧ a.toInt < 4) ∧ 0 ≤ b.toInt ∧ b.toInt < 12)) : ¬ f_X4_isBlockOfFile a b = true := fun q => h (q_isBlockOfFile.mp q)
theorem x_read {a b : Int32} {P : Mem} (h : ¬ ((0 ≤ a.toInt ∧ a.toInt < 4) ∧ 0 ≤ b.toInt ∧ b.toInt < 12)) : f_X4_read a b P = (.inr "java/lang/IllegalArgumentException", P) := by
  unfold f_X4_read; rw [if_neg (x_nbf h)]
theorem x_nextData {a b : Int32} {P : Mem} (h : ¬ ((0 ≤ a.toInt ∧ a.toInt < 4) ∧ 0 ≤ b.toInt ∧ b.toInt < 12)) : f_X4_nextData a b P = .inr "java/lang/IllegalArgumentException" := by
  unfold f_X4_nextData; rw [if_neg (x_nbf h)]
theorem x_nextHole {a b : Int32} {P : Mem} (h : ¬ ((0 ≤ a.toInt ∧ a.toInt < 4) ∧ 0 ≤ b.toInt ∧ b.toInt < 12)) : f_X4_nextHole a b P = .inr "java/lang/IllegalArgumentException" := by
  unfold f_X4_nextHole; rw [if_neg (x_nbf h)]
theorem x_places {a b : Int32} {P : Mem} (h : ¬ ((0 ≤ a.toInt ∧ a.toInt < 4) ∧ 0 ≤ b.toInt ∧ b.toInt < 12)) : f_X4_places a b P = .inr "java/lang/IllegalArgumentException" := by
  unfold f_X4_places; rw [if_neg (x_nbf h)]
theorem x_birth {a b : Int32} {P : Mem} (h : ¬ ((0 ≤ a.toInt ∧ a.toInt < 4) ∧ 0 ≤ b.toInt ∧ b.toInt < 12)) : f_X4_birth a b P = .inr "java/lang/IllegalArgumentException" := by
  unfold f_X4_birth; rw [if_neg (x_nbf h)]
theorem x_place {a b c : Int32} {P : Mem} (h : ¬ ((0 ≤ a.toInt ∧ a.toInt < 4) ∧ 0 ≤ b.toInt ∧ b.toInt < 12)) : f_X4_place a b c P = .inr "java/lang/IllegalArgumentException" := by
  unfold f_X4_place; rw [if_neg (x_nbf h)]
theorem x_checksum {a : Int32} {P : Mem} (h : ¬ (0 ≤ a.toInt ∧ a.toInt < 4)) : f_X4_checksum a P = .inr "java/lang/IllegalArgumentException" := by
  unfold f_X4_checksum; rw [if_neg (fun q => h (q_isFile.mp q))]
theorem x_nodePlace {a b : Int32} {P : Mem} (h : ¬ (0 ≤ a.toInt ∧ a.toInt < 4)) : f_X4_nodePlace a b P = .inr "java/lang/IllegalArgumentException" := by
  unfold f_X4_nodePlace; rw [if_neg (fun q => h (q_isFile.mp q))]
theorem x_told0 : f_X4_told (-1) = .inr "java/util/NoSuchElementException" := by
  unfold f_X4_told; rw [if_neg (fun q => by have := (q_isPlaceNumber.mp q).1; exact absurd this (by decide))]
theorem x_placeOf2 {p n : Int32} {P : Mem} (h : n.toInt ≠ 0 ∧ n.toInt ≠ 1) : f_X3_placeOf p n P = -1 := by
  unfold f_X3_placeOf
  split
  · rw [if_pos (fun e => h.1 (by rw [e]; rfl)), if_pos (fun e => h.2 (by rw [e]; rfl))]
  · rfl
theorem x_place2 {a b c : Int32} {P : Mem} (h : (0 ≤ a.toInt ∧ a.toInt < 4) ∧ 0 ≤ b.toInt ∧ b.toInt < 12) (hc : c.toInt ≠ 0 ∧ c.toInt ≠ 1) : f_X4_place a b c P = .inr "java/util/NoSuchElementException" := by
  unfold f_X4_place; rw [if_pos (q_isBlockOfFile.mpr h), x_placeOf2 hc, x_told0]
theorem x_nodePlace2 {a c : Int32} {P : Mem} (h : 0 ≤ a.toInt ∧ a.toInt < 4) (hc : c.toInt ≠ 0 ∧ c.toInt ≠ 1) : f_X4_nodePlace a c P = .inr "java/util/NoSuchElementException" := by
  unfold f_X4_nodePlace; rw [if_pos (q_isFile.mpr h), x_placeOf2 hc, x_told0]
theorem x_rootPlace2 {c : Int32} {P : Mem} (hc : c.toInt ≠ 0 ∧ c.toInt ≠ 1) : f_X4_rootPlace c P = .inr "java/util/NoSuchElementException" := by
  unfold f_X4_rootPlace; rw [x_placeOf2 hc, x_told0]
theorem x_nsm {a b : Int32} (h : ¬ ((0 ≤ a.toInt ∧ a.toInt < 3) ∧ 0 ≤ b.toInt ∧ b.toInt < 2)) : ¬ f_X4_isSideOfMirror a b = true := fun q => h (q_isSideOfMirror.mp q)
theorem x_offline {a b : Int32} {P : Mem} (h : ¬ ((0 ≤ a.toInt ∧ a.toInt < 3) ∧ 0 ≤ b.toInt ∧ b.toInt < 2)) : f_X4_offline a b P = (.inr "java/lang/IllegalArgumentException", P) := by
  unfold f_X4_offline; rw [if_neg (x_nsm h)]
theorem x_online {a b : Int32} {P : Mem} (h : ¬ ((0 ≤ a.toInt ∧ a.toInt < 3) ∧ 0 ≤ b.toInt ∧ b.toInt < 2)) : f_X4_online a b P = (.inr "java/lang/IllegalArgumentException", P) := by
  unfold f_X4_online; rw [if_neg (x_nsm h)]
theorem x_spoil {a b c : Int32} {P : Mem} (h : ¬ (((0 ≤ a.toInt ∧ a.toInt < 3) ∧ 0 ≤ b.toInt ∧ b.toInt < 2) ∧ 0 ≤ c.toInt ∧ c.toInt < 40)) : f_X4_spoil a b c P = (.inr "java/lang/IllegalArgumentException", P) := by
  unfold f_X4_spoil
  by_cases h1 : f_X4_isSideOfMirror a b = true
  · rw [if_pos h1]
    by_cases h2 : f_X4_isCell c = true
    · exact absurd ⟨q_isSideOfMirror.mp h1, q_isCell.mp h2⟩ h
    · rw [if_neg h2]
  · rw [if_neg h1]
theorem x_isSpoilt {a b c : Int32} {P : Mem} (h : ¬ (((0 ≤ a.toInt ∧ a.toInt < 3) ∧ 0 ≤ b.toInt ∧ b.toInt < 2) ∧ 0 ≤ c.toInt ∧ c.toInt < 40)) : f_X4_isSpoilt a b c P = .inr "java/lang/IllegalArgumentException" := by
  unfold f_X4_isSpoilt
  by_cases h1 : f_X4_isSideOfMirror a b = true
  · rw [if_pos h1]
    by_cases h2 : f_X4_isCell c = true
    · exact absurd ⟨q_isSideOfMirror.mp h1, q_isCell.mp h2⟩ h
    · rw [if_neg h2]
  · rw [if_neg h1]
theorem x_isFree {a c : Int32} {P : Mem} (h : ¬ ((0 ≤ a.toInt ∧ a.toInt < 3) ∧ 0 ≤ c.toInt ∧ c.toInt < 40)) : f_X4_isFree a c P = .inr "java/lang/IllegalArgumentException" := by
  unfold f_X4_isFree
  by_cases h1 : f_X4_isMirror a = true
  · rw [if_pos h1]
    by_cases h2 : f_X4_isCell c = true
    · exact absurd ⟨q_isMirror.mp h1, q_isCell.mp h2⟩ h
    · rw [if_neg h2]
  · rw [if_neg h1]
theorem x_free {a : Int32} {P : Mem} (h : ¬ (0 ≤ a.toInt ∧ a.toInt < 3)) : f_X4_free a P = .inr "java/lang/IllegalArgumentException" := by
  unfold f_X4_free; rw [if_neg (fun q => h (q_isMirror.mp q))]
-- in range
theorem nI_r {n N : Nat} (h : n < N) (hN : N < 2 ^ 31) : 0 ≤ (nI n).toInt ∧ (nI n).toInt < N := by rw [nI_toInt (by omega)]; omega
theorem y_pn {m c : Nat} (hm : m < 3) (hc : c < 40) : f_X4_placeNumber (nI m) (nI c) = nI (40 * m + c) := by
  rw [y_pl, show (40 : Int32) = nI 40 by decide, pk_mul, nI_add]
theorem y_bpn (f b : Nat) : f_X4_blockPointer (nI f) (nI b) = nI (12 * f + b) := by
  rw [y_pt, show (12 : Int32) = nI 12 by decide, pk_mul, nI_add]
theorem y_fpn (f : Nat) : f_X4_filePointer (nI f) = nI (48 + f) := by
  unfold f_X4_filePointer; rw [show (48 : Int32) = nI 48 by decide, nI_add]
theorem y_used {d : Nat} {P : Mem} (hd : d < 120) : f_X0_isUsed (nI d) P = ! decide (P 6 d = 0) := by
  unfold f_X0_isUsed
  rw [if_pos (q_isPlaceNumber.mpr (nI_r hd (by decide))), nI_clamp (by omega)]
  by_cases h : P 6 d = 0 <;> simp [h]
theorem y_isFree {m c : Nat} {P : Mem} (hm : m < 3) (hc : c < 40) : f_X4_isFree (nI m) (nI c) P = .inl (decide (P 6 (40 * m + c) = 0)) := by
  unfold f_X4_isFree
  rw [if_pos (q_isMirror.mpr (nI_r hm (by decide))), if_pos (q_isCell.mpr (nI_r hc (by decide))), y_pn hm hc, y_used (by omega)]
  by_cases h : P 6 (40 * m + c) = 0 <;> simp [h]
theorem y_online {m s : Nat} {P : Mem} (hm : m < 3) (hs : s < 2) : f_X0_hasOnline (nI m) (nI s) P = decide (P 8 (2 * m + s) = 0) := by
  unfold f_X0_hasOnline
  rw [if_pos (q_isSideOfMirror.mpr ⟨nI_r hm (by decide), nI_r hs (by decide)⟩), show (2 : Int32) = nI 2 by decide, pk_mul, nI_add, nI_clamp (by omega), Nat.mul_comm m 2]
  by_cases h : P 8 (2 * m + s) = 0 <;> simp [h]
theorem x_spoilF {m s c : Nat} {P : Mem} (hm : m < 3) (hs : s < 2) (hc : c < 40) (h : P 6 (40 * m + c) = 0) : f_X4_spoil (nI m) (nI s) (nI c) P = (.inr "java/lang/IllegalStateException", P) := by
  unfold f_X4_spoil
  rw [if_pos (q_isSideOfMirror.mpr ⟨nI_r hm (by decide), nI_r hs (by decide)⟩), if_pos (q_isCell.mpr (nI_r hc (by decide))), y_pn hm hc, y_used (by omega), y_online hm hs]
  by_cases h1 : P 8 (2 * m + s) = 0 <;> simp [h, h1]
theorem y_isSpoilt {m s c : Nat} {P : Mem} (hm : m < 3) (hs : s < 2) (hc : c < 40) : f_X4_isSpoilt (nI m) (nI s) (nI c) P = if P 8 (2 * m + s) = 0 then .inl (f_X0_hasSpoilt (nI (40 * m + c)) (nI s) P) else .inr "java/lang/IllegalStateException" := by
  unfold f_X4_isSpoilt
  rw [if_pos (q_isSideOfMirror.mpr ⟨nI_r hm (by decide), nI_r hs (by decide)⟩), if_pos (q_isCell.mpr (nI_r hc (by decide))), y_pn hm hc, y_online hm hs]
  by_cases h1 : P 8 (2 * m + s) = 0 <;> simp [h1]
theorem y_loff {a b : Int32} {m : Nat} {P : Mem} (ha : a = nI m) (hm : m < 3) : l_X4_offline_20 a b P 3 0 = if P 8 (2 * m) = 0 then (if P 8 (2 * m + 1) = 0 then .inr 2 else .inl (.inr "java/lang/IllegalStateException", P)) else .inl (.inr "java/lang/IllegalStateException", P) := by
  have e0 : (0 : Int32) = nI 0 := by decide
  have e1 : (0 : Int32) + 1 = nI 1 := by decide
  have e2 : nI 1 + 1 = (2 : Int32) := by decide
  have h0 := y_online (P := P) hm (s := 0) (by omega)
  have h1 := y_online (P := P) hm (s := 1) (by omega)
  rw [← e0] at h0
  subst ha
  simp only [l_X4_offline_20, b_X4_offline_20, h0, e1, h1, e2, Int32.reduceLE, if_false]
  rw [if_neg (by decide : ¬ (2 : Int32) ≤ nI 1)]
  by_cases a0 : P 8 (2 * m + 0) = 0 <;> by_cases a1 : P 8 (2 * m + 1) = 0 <;> simp_all
theorem x_offlineS {m s : Nat} {P : Mem} (hm : m < 3) (hs : s < 2) (h : ¬ (P 8 (2 * m) = 0 ∧ P 8 (2 * m + 1) = 0)) : f_X4_offline (nI m) (nI s) P = (.inr "java/lang/IllegalStateException", P) := by
  unfold f_X4_offline
  rw [if_pos (q_isSideOfMirror.mpr ⟨nI_r hm (by decide), nI_r hs (by decide)⟩), y_loff rfl hm]
  by_cases a0 : P 8 (2 * m) = 0
  · rw [if_pos a0, if_neg (fun a1 => h ⟨a0, a1⟩)]; rfl
  · rw [if_neg a0]; rfl
theorem x_onlineS {m s : Nat} {P : Mem} (hm : m < 3) (hs : s < 2) (h : P 8 (2 * m + s) = 0) : f_X4_online (nI m) (nI s) P = (.inr "java/lang/IllegalStateException", P) := by
  unfold f_X4_online
  rw [if_pos (q_isSideOfMirror.mpr ⟨nI_r hm (by decide), nI_r hs (by decide)⟩), y_online hm hs, if_pos (by simp [h])]
end
