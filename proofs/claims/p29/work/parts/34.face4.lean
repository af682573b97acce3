section
/-! ===== PURE: free, pointers, read ===== -/
theorem r_cf {d a : Int32} {M N : Mem} (h : zR d M N) (ha : 0 ≤ a.toInt ∧ a.toInt < 3) : f_X0_countFree a M = f_X5_countFree_8 a N := by
  have e := r_lfree h ha 41 0 0 (by decide) (by decide)
  rw [Int32.add_zero] at e
  have e40 := z40 ha (b := 40) (by decide)
  simp only [Int32.reduceToInt] at e40
  have ef : ((40 * a + 40 : Int32).toInt - (40 * a : Int32).toInt).toNat + 1 = 41 := by rw [e40, z40' ha]; omega
  unfold f_X0_countFree f_X5_countFree_8
  simp only [zlet]
  rw [ef, e]
theorem r_free {n : Int} {a : Int32} {M N : Mem} (h : zRI n 0 M N) : zRI n 0 M (f_X5_free a N).2 ∧ qA cE id (f_X4_free a M) (f_X5_free a N) := by
  unfold f_X4_free f_X5_free
  rw [e_mr]
  by_cases hm : f_X4_isMirror a = true
  · rw [if_pos hm, if_pos hm]
    exact ⟨zRI_00 h, (r_cf (zR_00 h.1) (q_isMirror.mp hm)).symm, m00 N 0⟩
  · rw [if_neg hm, if_neg hm]
    exact ⟨zRI_00 h, by simp [qA, cE, m00]⟩
theorem r_places {n : Int} {a b : Int32} {M N : Mem} (h : zRI n 0 M N) : zRI n 0 M (f_X5_places a b N).2 ∧ qA cE id (f_X4_places a b M) (f_X5_places a b N) := by
  unfold f_X4_places f_X5_places
  rw [e_bl]
  by_cases hb : f_X4_isBlockOfFile a b = true
  · have hr := q_isBlockOfFile.mp hb
    have hp := y_bp3 hr
    have hN := y_pN hp
    have h0 := zRI_00 (x := 0) h
    rw [if_pos hb, if_pos hb, ← h0.1.2.2.1 _ hN, ← h0.1.2.2.2.1 _ hN]
    unfold f_X3_countPlaces f_X3_isMissing
    rw [y_pt, u_pl0 hp, u_pl1 hp]
    have hi := h.2.2.2.2.1 _ hN
    by_cases e1 : M 11 (12 * a + b).toNatClampNeg = -1 <;> by_cases e2 : M 12 (12 * a + b).toNatClampNeg = -1
    · simp only [e1, e2, if_true, not_true, if_false]
      exact ⟨h0, by simp [qA, m00]⟩
    · exact absurd e1 (hi e2).1
    · simp only [e1, e2, if_true, not_true, not_false_eq_true, if_false, Bool.false_eq_true]
      exact ⟨h0, by simp [qA, m00]⟩
    · simp only [e1, e2, if_true, not_true, not_false_eq_true, if_false, Bool.false_eq_true]
      exact ⟨h0, by simp [qA, m00]⟩
  · rw [if_neg hb, if_neg hb]
    exact ⟨zRI_00 h, by simp [qA, cE, m00]⟩
theorem u_told {c : Int32} {M : Mem} (h : cU M c) : f_X4_told c = if c = -1 then .inr "java/util/NoSuchElementException" else .inl ((100 * (c / 40)) + (c - c / 40 * 40)) := by
  unfold f_X4_told
  rcases h with rfl | ⟨h, _⟩
  · rw [if_neg (by rw [q_isPlaceNumber]; decide), if_pos rfl]
  · rw [if_pos (q_isPlaceNumber.mpr h), if_neg (y_ne1 h.1)]; rfl
/-- a place that is asked for; E: how the method lists the exceptions -/
theorem r_placeOf {n : Int} {p s e : Int32} {E : String → Int32} {M N : Mem} (h : zRI n 0 M N) (hp : 0 ≤ p.toInt ∧ p.toInt < 53) (he : e ≠ 0) (hE : E "java/util/NoSuchElementException" = e) :
    zRI n 0 M (f_X5_placeOf p s e N).2 ∧ qA E id (f_X4_told (f_X3_placeOf p s M)) (f_X5_placeOf p s e N) := by
  have hN := y_pN hp
  have hi := h.2.1 _ hN
  have hr : f_X5_refused e N = (true, mup N 0 0 e) := by unfold f_X5_refused; rw [if_neg he]
  have g (c : Int32) (hc : cU M c) : zRI n 0 M (if ¬ c = -1 then (((100 * (c / 40)) + (c - c / 40 * 40)), (mup N 0 0 0)) else zlet (f_X5_refused e N) (fun q => if q.1 then ((0 : Int32), q.2) else (((100 * (c / 40)) + (c - c / 40 * 40)), q.2))).2 ∧
      qA E id (f_X4_told c) (if ¬ c = -1 then (((100 * (c / 40)) + (c - c / 40 * 40)), (mup N 0 0 0)) else zlet (f_X5_refused e N) (fun q => if q.1 then ((0 : Int32), q.2) else (((100 * (c / 40)) + (c - c / 40 * 40)), q.2))) := by
    rw [u_told hc]
    by_cases ec : c = -1
    · rw [if_pos ec, if_neg (fun q => q ec), hr]
      exact ⟨zRI_00 h, by simp [qA, zlet, m00, hE]⟩
    · rw [if_neg ec, if_pos ec]
      exact ⟨zRI_00 h, rfl, m00 N 0⟩
  unfold f_X5_placeOf f_X3_placeOf
  rw [if_pos (q_isPointer.mpr hp)]
  by_cases e0 : s = 0
  · rw [if_neg (show ¬ ¬ s = 0 from fun q => q e0), if_neg (show ¬ ¬ s = 0 from fun q => q e0), ← h.1.2.2.1 _ hN]
    exact g _ hi.1
  · by_cases e1 : s = 1
    · rw [if_pos (show ¬ s = 0 from e0), if_pos (show ¬ s = 0 from e0), if_neg (show ¬ ¬ s = 1 from fun q => q e1), if_neg (show ¬ ¬ s = 1 from fun q => q e1), ← h.1.2.2.2.1 _ hN]
      exact g _ hi.2
    · rw [if_pos (show ¬ s = 0 from e0), if_pos (show ¬ s = 0 from e0), if_pos (show ¬ s = 1 from e1), if_pos (show ¬ s = 1 from e1), hr, u_told (M := M) (Or.inl rfl), if_pos rfl]
      exact ⟨zRI_00 h, by simp [qA, zlet, m00, hE]⟩
theorem r_place {n : Int} {a b s : Int32} {M N : Mem} (h : zRI n 0 M N) : zRI n 0 M (f_X5_place a b s N).2 ∧ qA cE id (f_X4_place a b s M) (f_X5_place a b s N) := by
  unfold f_X4_place f_X5_place
  rw [e_bl]
  by_cases hb : f_X4_isBlockOfFile a b = true
  · have hr := q_isBlockOfFile.mp hb
    rw [if_pos hb, if_pos hb, y_pt]
    exact r_placeOf (zRI_00 h) (y_bp3 hr) (by decide) rfl
  · rw [if_neg hb, if_neg hb]
    exact ⟨zRI_00 h, by simp [qA, cE, m00]⟩
theorem r_nodePlace {n : Int} {a s : Int32} {M N : Mem} (h : zRI n 0 M N) : zRI n 0 M (f_X5_nodePlace a s N).2 ∧ qA cE id (f_X4_nodePlace a s M) (f_X5_nodePlace a s N) := by
  unfold f_X4_nodePlace f_X5_nodePlace
  rw [e_fl]
  by_cases hb : f_X4_isFile a = true
  · have hr := q_isFile.mp hb
    rw [if_pos hb, if_pos hb]
    exact r_placeOf (p := f_X4_filePointer a) (zRI_00 h) (y_fp hr) (by decide) rfl
  · rw [if_neg hb, if_neg hb]
    exact ⟨zRI_00 h, by simp [qA, cE, m00]⟩
theorem r_rootPlace {n : Int} {s : Int32} {M N : Mem} (h : zRI n 0 M N) : zRI n 0 M (f_X5_rootPlace s N).2 ∧ qA c1E id (f_X4_rootPlace s M) (f_X5_rootPlace s N) :=
  r_placeOf (p := 52) (E := c1E) h y_52 (by decide) rfl
theorem r_birth {n : Int} {a b : Int32} {M N : Mem} (h : zRI n 0 M N) : zRI n 0 M (f_X5_birth a b N).2 ∧ qA cE id (f_X4_birth a b M) (f_X5_birth a b N) := by
  unfold f_X4_birth f_X5_birth
  rw [e_bl]
  by_cases hb : f_X4_isBlockOfFile a b = true
  · have hp := y_bp3 (q_isBlockOfFile.mp hb)
    have h0 := zRI_00 (x := 0) h
    rw [if_pos hb, if_pos hb]
    unfold f_X3_birthOf
    rw [y_pt, if_pos (q_isPointer.mpr hp)]
    exact ⟨h0, (h0.1.2.2.2.2.2.1 _ (y_pN hp)).symm, m00 N 0⟩
  · rw [if_neg hb, if_neg hb]
    exact ⟨zRI_00 h, by simp [qA, cE, m00]⟩
theorem r_checksum {n : Int} {a : Int32} {M N : Mem} (h : zRI n 0 M N) : zRI n 0 M (f_X5_checksum a N).2 ∧ qA cE id (f_X4_checksum a M) (f_X5_checksum a N) := by
  unfold f_X4_checksum f_X5_checksum
  rw [e_fl]
  by_cases hb : f_X4_isFile a = true
  · have hp := y_fp (q_isFile.mp hb)
    have h0 := zRI_00 (x := 0) h
    rw [if_pos hb, if_pos hb]
    unfold f_X3_checksumOf f_X4_filePointer
    rw [if_pos (q_isPointer.mpr hp)]
    exact ⟨h0, (h0.1.2.2.2.2.1 _ (y_pN hp)).symm, m00 N 0⟩
  · rw [if_neg hb, if_neg hb]
    exact ⟨zRI_00 h, by simp [qA, cE, m00]⟩
theorem r_rootChecksum {n : Int} {M N : Mem} (h : zRI n 0 M N) : zRI n 0 M (f_X5_rootChecksum N).2 ∧ f_X4_rootChecksum M = (f_X5_rootChecksum N).1 := by
  unfold f_X4_rootChecksum f_X5_rootChecksum f_X3_checksumOf
  rw [if_pos (q_isPointer.mpr y_52)]
  exact ⟨zRI_00 h, h.1.2.2.2.2.1 _ (y_pN y_52)⟩
-- ===== read =====
theorem r_rit {n : Int} {d p : Int32} {M N : Mem} (h : zRI n d M N) (hp : 0 ≤ p.toInt ∧ p.toInt < 53) :
    zRI n (d + (f_X4_healUpToGoodCell p M).1) (f_X4_healUpToGoodCell p M).2 (f_X5_readIfThere p N) ∧ sK M (f_X4_healUpToGoodCell p M).2 := by
  unfold f_X5_readIfThere
  by_cases ht : f_X5_isThere p N = true
  · rw [if_pos ht]; exact r_readOn h hp
  · rw [if_neg ht]
    have hN := y_pN hp
    have e0 : M 11 p.toNatClampNeg = -1 := by
      rw [h.1.2.2.1 _ hN]
      unfold f_X5_isThere at ht
      by_cases e : N 4 p.toNatClampNeg = -1
      · exact e
      · rw [if_neg e] at ht; exact absurd rfl ht
    have e1 : M 12 p.toNatClampNeg = -1 := by
      by_cases e : M 12 p.toNatClampNeg = -1
      · exact e
      · exact absurd e0 (h.2.2.2.2.1 _ hN e).1
    have hh (s : Int32) (M : Mem) : f_X0_heal (-1) s M = (0, M) := by
      unfold f_X0_heal f_X0_hasSpoilt
      rw [if_neg]
      rw [if_neg (by rw [q_isCellOnSide]; simp [z_neg1])]
      decide
    have e : f_X4_healUpToGoodCell p M = (0, M) := by
      rw [u_hugs, u_pl0 hp, e0, u_hug, u_good0, u_good0, if_neg (by decide), if_neg (by decide), hh, hh]
      simp only [Sum.elim_inr, hh]
      rw [u_pl1 hp, e1, u_hug, u_good0, u_good0, if_neg (by decide), if_neg (by decide), hh, hh]
      rfl
    rw [e, Int32.add_zero]
    exact ⟨h, sK.refl M⟩
theorem zR_05 {d x : Int32} {M N : Mem} (h : zR d M N) (hx : x = M 0 5 + d) : zR 0 (mup M 0 5 x) N := by
  obtain ⟨h1, h2, h3, h4, h5, h6, h7, h8, h9, h10, h11, h12, h13⟩ := h
  refine ⟨by simpa [mup, mset] using h1, by simpa [mup, mset] using h2, by simpa [mup, mset] using h3, by simpa [mup, mset] using h4, by simpa [mup, mset] using h5, by simpa [mup, mset] using h6, by simpa [mup, mset] using h7, by simpa [mup, mset] using h8, by simpa [mup, mset] using h9, by simpa [mup, mset] using h10, by simpa [mup, mset] using h11, by simpa [mup, mset] using h12, ?_⟩
  rw [Int32.add_zero, ← h13, ← hx]
  simp [mup, mset, upd]
theorem zI_0 {n : Int} {x : Int32} {k : Nat} {M : Mem} (h : zI n M) : zI n (mup M 0 k x) := by
  simpa [zI, cU, mup, mset] using h
theorem v_heal00 (c s : Int32) (N : Mem) : (f_X5_heal c s N).2 0 = N 0 := by
  unfold f_X5_heal
  repeat' split
  all_goals first | rfl | exact mset_ne (by decide)
theorem v_rd00 (x : Int32) : ∀ (k : Nat) (b : Bool) (v : Int32) (N : Mem), (l_X5_readOn_4 x k b v N).2.2 0 0 = N 0 0 := by
  intro k
  induction k with
  | zero => intro b v N; rfl
  | succ k ih =>
    intro b v N
    have g (c s w : Int32) : (mup (f_X5_heal c s N).2 0 2 w) 0 0 = N 0 0 := by
      simp [mup, mset, upd, v_heal00]
    have g2 (w : Int32) : (mup N 0 2 w) 0 0 = N 0 0 := by simp [mup, mset, upd]
    show (b_X5_readOn_4 x (l_X5_readOn_4 x k) b v N).2.2 0 0 = N 0 0
    unfold b_X5_readOn_4
    simp only [zlet]
    repeat' split
    all_goals first | rfl | (rw [ih, g2]) | (rw [ih, g])
theorem v_rit00 (p : Int32) (N : Mem) : (f_X5_readIfThere p N) 0 0 = N 0 0 := by
  unfold f_X5_readIfThere
  split
  · exact v_rd00 p 5 false 0 N
  · rfl
theorem r_read {n : Int} {a b : Int32} {M N : Mem} (h : zRI n 0 M N) : zRI n 0 (f_X4_read a b M).2 (f_X5_read a b N).2 ∧ qA cE id (f_X4_read a b M).1 (f_X5_read a b N) := by
  unfold f_X4_read f_X5_read
  rw [e_bl]
  by_cases hb : f_X4_isBlockOfFile a b = true
  · have hr := q_isBlockOfFile.mp hb
    have hp := y_bp hr
    have hp3 := y_bp3 hr
    have hf := y_fp hr.1
    have h0 := zRI_00 (x := 0) h
    rw [if_pos hb, if_pos hb, y_pt, u_holds hp, h.1.1 _ (y_bN hp), u_isCut]
    by_cases e : N 3 (12 * a + b).toNatClampNeg = -1
    · simp only [e, decide_true, Bool.not_true, Bool.false_eq_true, if_false, if_true]
      rw [r_unread h y_52, show f_X4_filePointer a = 48 + a from rfl, r_unread h hf, r_unread h hp3]
      cases f_X5_isThere 52 N && !f_X5_isReadable 52 N with
      | true => exact ⟨zRI_00 h, by simp [qA, cE, m00]⟩
      | false =>
        cases f_X5_isThere (48 + a) N && !f_X5_isReadable (48 + a) N with
        | true => exact ⟨zRI_00 h, by simp [qA, cE, m00]⟩
        | false =>
          cases f_X5_isThere (12 * a + b) N && !f_X5_isReadable (12 * a + b) N with
          | true => exact ⟨zRI_00 h, by simp [qA, cE, m00]⟩
          | false =>
            simp only [Bool.or_false, Bool.false_eq_true, if_false, zlet]
            obtain ⟨r1, t1⟩ := r_rit h0 y_52
            obtain ⟨r2, t2⟩ := r_rit r1 hf
            obtain ⟨r3, t3⟩ := r_rit r2 hp3
            have t := (t1.trans t2).trans t3
            have e05 : M 0 5 + ((f_X4_healUpToGoodCell 52 M).1 + (f_X4_healUpToGoodCell (48 + a) (f_X4_healUpToGoodCell 52 M).2).1 + (f_X4_healUpToGoodCell (12 * a + b) (f_X4_healUpToGoodCell (48 + a) (f_X4_healUpToGoodCell 52 M).2).2).1) = (f_X4_healUpToGoodCell (12 * a + b) (f_X4_healUpToGoodCell (48 + a) (f_X4_healUpToGoodCell 52 M).2).2).2 0 5 + (0 + (f_X4_healUpToGoodCell 52 M).1 + (f_X4_healUpToGoodCell (48 + a) (f_X4_healUpToGoodCell 52 M).2).1 + (f_X4_healUpToGoodCell (12 * a + b) (f_X4_healUpToGoodCell (48 + a) (f_X4_healUpToGoodCell 52 M).2).2).1) := by
              rw [t 0 (by decide), Int32.zero_add]
            refine ⟨⟨zR_05 r3.1 e05, zI_0 r3.2⟩, ?_, ?_⟩
            · rw [u_valueOf hp]
              unfold f_X5_now
              rw [← r3.1.1 _ (y_bN hp), ← r3.1.2.1 _ (y_bN hp), t 15 (by decide), h.1.1 _ (y_bN hp), if_neg (fun q => q e)]
              simp [mup, mset]
            · show (f_X5_readIfThere _ _) 0 0 = 0
              rw [v_rit00, v_rit00, v_rit00, m00]
    · simp only [e, decide_false, Bool.not_false, if_true, if_false]
      rw [u_changeOf hp]
      refine ⟨h0, ?_, m00 N 0⟩
      unfold f_X5_now
      rw [show (mup N 0 0 0) 3 = N 3 by simp [mup, mset], if_pos e, h.1.1 _ (y_bN hp)]
      rfl
  · rw [if_neg hb, if_neg hb]
    exact ⟨zRI_00 h, by simp [qA, cE, m00]⟩
end
