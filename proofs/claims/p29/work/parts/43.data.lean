section
/-! ===== PURE, sync: which files have data, which are changed ===== -/
/-- the value of a block -/
def vN (M : Mem) (k : Nat) : Int32 := if M 15 k = -1 then M 10 k else M 15 k
def hd (M : Mem) (f : Nat) : Prop := ∃ b : Nat, b < 12 ∧ vN M (12 * f + b) ≠ 0
def ch (M : Mem) (f : Nat) : Prop := ∃ b : Nat, b < 12 ∧ M 15 (12 * f + b) ≠ -1
theorem u_now {a b : Int32} {M : Mem} (hp : (0 ≤ a.toInt ∧ a.toInt < 4) ∧ 0 ≤ b.toInt ∧ b.toInt < 12) : f_X4_valueNow a b M = vN M (12 * a.toNatClampNeg + b.toNatClampNeg) := by
  have hb := y_bp hp
  unfold f_X4_valueNow vN
  rw [y_pt, u_holds hb, u_changeOf hb, u_valueOf hb, y_12 hp.1 (by omega)]
  by_cases e : M 15 (12 * a.toNatClampNeg + b.toNatClampNeg) = -1 <;> simp [e]
theorem v_now {d p : Int32} {M N : Mem} (h : zR d M N) (hp : 0 ≤ p.toInt ∧ p.toInt < 48) : f_X5_now p N = vN M p.toNatClampNeg := by
  unfold f_X5_now vN
  rw [h.1 _ (y_bN hp), h.2.1 _ (y_bN hp)]
  by_cases e : N 3 p.toNatClampNeg = -1 <;> simp [e]
theorem u_lhd {x : Int32} {M : Mem} (hx : 0 ≤ x.toInt ∧ x.toInt < 4) : ∀ (k : Nat) (v : Int32) (i : Nat), v.toInt = i → i ≤ 12 → 12 - i + 1 ≤ k →
    (Sum.elim (fun r => r) (fun _ => false) (l_X4_hasData_2 x M k v) = true ↔ ∃ b : Nat, i ≤ b ∧ b < 12 ∧ vN M (12 * x.toNatClampNeg + b) ≠ 0) := by
  intro k
  induction k with
  | zero => intro v i _ _ h; omega
  | succ k ih =>
    intro v i hv hi hk
    show (Sum.elim (fun r => r) (fun _ => false) (b_X4_hasData_2 x M (l_X4_hasData_2 x M k) v) = true ↔ _)
    unfold b_X4_hasData_2
    by_cases hg : 12 ≤ v
    · rw [if_pos hg]
      rw [Int32.le_iff_toInt_le] at hg
      simp only [Int32.reduceToInt] at hg
      constructor
      · intro q; exact absurd q (by simp)
      · rintro ⟨b, b1, b2, _⟩; omega
    · rw [if_neg hg]
      have hn := z_p1 hg
      rw [Int32.le_iff_toInt_le] at hg
      simp only [Int32.reduceToInt] at hg
      have hvN := y_N (v := v) (by omega)
      rw [u_now ⟨hx, by omega⟩, show v.toNatClampNeg = i by omega]
      by_cases e : vN M (12 * x.toNatClampNeg + i) = 0
      · rw [if_pos e, ih (v + 1) (i + 1) (by omega) (by omega) (by omega)]
        constructor
        · rintro ⟨b, b1, b2, b3⟩; exact ⟨b, by omega, b2, b3⟩
        · rintro ⟨b, b1, b2, b3⟩
          by_cases eb : b = i
          · rw [eb] at b3; exact absurd e b3
          · exact ⟨b, by omega, b2, b3⟩
      · rw [if_neg e]
        exact ⟨fun _ => ⟨i, Nat.le_refl i, by omega, e⟩, fun _ => rfl⟩
theorem u_hd {x : Int32} {M : Mem} (hx : 0 ≤ x.toInt ∧ x.toInt < 4) : f_X4_hasData x M = true ↔ hd M x.toNatClampNeg := by
  have := u_lhd (M := M) hx 13 0 0 rfl (by omega) (by omega)
  unfold hd
  refine Iff.trans this ⟨?_, ?_⟩
  · rintro ⟨b, _, b2, b3⟩; exact ⟨b, b2, b3⟩
  · rintro ⟨b, b2, b3⟩; exact ⟨b, by omega, b2, b3⟩
theorem u_lch {x : Int32} {M : Mem} (hx : 0 ≤ x.toInt ∧ x.toInt < 4) : ∀ (k : Nat) (v : Int32) (i : Nat), v.toInt = i → i ≤ 12 → 12 - i + 1 ≤ k →
    (Sum.elim (fun r => r) (fun _ => false) (l_X2_changes_2 x M k v) = true ↔ ∃ b : Nat, i ≤ b ∧ b < 12 ∧ M 15 (12 * x.toNatClampNeg + b) ≠ -1) := by
  intro k
  induction k with
  | zero => intro v i _ _ h; omega
  | succ k ih =>
    intro v i hv hi hk
    show (Sum.elim (fun r => r) (fun _ => false) (b_X2_changes_2 x M (l_X2_changes_2 x M k) v) = true ↔ _)
    unfold b_X2_changes_2
    by_cases hg : 12 ≤ v
    · rw [if_pos hg]
      rw [Int32.le_iff_toInt_le] at hg
      simp only [Int32.reduceToInt] at hg
      constructor
      · intro q; exact absurd q (by simp)
      · rintro ⟨b, b1, b2, _⟩; omega
    · rw [if_neg hg]
      have hn := z_p1 hg
      rw [Int32.le_iff_toInt_le] at hg
      simp only [Int32.reduceToInt] at hg
      have hvN := y_N (v := v) (by omega)
      have hb := y_bp (a := x) (b := v) ⟨hx, by omega⟩
      rw [y_pt, u_holds hb, y_12 hx (by omega), show v.toNatClampNeg = i by omega]
      by_cases e : M 15 (12 * x.toNatClampNeg + i) = -1
      · rw [show (!decide (M 15 (12 * x.toNatClampNeg + i) = -1)) = false by simp [e], if_neg (by decide), ih (v + 1) (i + 1) (by omega) (by omega) (by omega)]
        constructor
        · rintro ⟨b, b1, b2, b3⟩; exact ⟨b, by omega, b2, b3⟩
        · rintro ⟨b, b1, b2, b3⟩
          by_cases eb : b = i
          · rw [eb] at b3; exact absurd e b3
          · exact ⟨b, by omega, b2, b3⟩
      · rw [show (!decide (M 15 (12 * x.toNatClampNeg + i) = -1)) = true by simp [e], if_pos rfl]
        exact ⟨fun _ => ⟨i, Nat.le_refl i, by omega, e⟩, fun _ => rfl⟩
theorem u_ch {x : Int32} {M : Mem} (hx : 0 ≤ x.toInt ∧ x.toInt < 4) : f_X2_changes x M = true ↔ ch M x.toNatClampNeg := by
  have := u_lch (M := M) hx 13 0 0 rfl (by omega) (by omega)
  unfold ch
  refine Iff.trans this ⟨?_, ?_⟩
  · rintro ⟨b, _, b2, b3⟩; exact ⟨b, b2, b3⟩
  · rintro ⟨b, b2, b3⟩; exact ⟨b, by omega, b2, b3⟩
theorem v_lhd {d x : Int32} {M N : Mem} (h : zR d M N) (hx : 0 ≤ x.toInt ∧ x.toInt < 4) : ∀ (k : Nat) (w : Bool) (v : Int32) (i : Nat), v.toInt = 12 * x.toInt + i → i ≤ 12 → 12 - i + 1 ≤ k →
    ((l_X5_hasData_7 x N k w v).1 = true ↔ w = true ∨ ∃ b : Nat, i ≤ b ∧ b < 12 ∧ vN M (12 * x.toNatClampNeg + b) ≠ 0) := by
  intro k
  induction k with
  | zero => intro w v i _ _ h; omega
  | succ k ih =>
    intro w v i hv hi hk
    show ((b_X5_hasData_7 x N (l_X5_hasData_7 x N k) w v).1 = true ↔ _)
    unfold b_X5_hasData_7
    have e12 := z12 hx (b := 12) (by decide)
    simp only [Int32.reduceToInt] at e12
    have hxN := y_N hx.1
    by_cases hg : 12 * x + 12 ≤ v
    · rw [if_pos hg]
      rw [Int32.le_iff_toInt_le, e12] at hg
      constructor
      · intro q; exact Or.inl q
      · rintro (q | ⟨b, b1, b2, _⟩)
        · exact q
        · omega
    · rw [if_neg hg]
      have hn := z_p1 hg
      rw [Int32.le_iff_toInt_le, e12] at hg
      have hvN := y_N (v := v) (by omega)
      cases w with
      | true => rw [if_pos rfl, ih true (v + 1) (i + 1) (by omega) (by omega) (by omega)]; simp
      | false =>
        rw [if_neg (by decide), v_now h (by omega), show v.toNatClampNeg = 12 * x.toNatClampNeg + i by omega]
        by_cases e : vN M (12 * x.toNatClampNeg + i) = 0
        · rw [if_pos e, ih false (v + 1) (i + 1) (by omega) (by omega) (by omega)]
          constructor
          · rintro (q | ⟨b, b1, b2, b3⟩)
            · exact Or.inl q
            · exact Or.inr ⟨b, by omega, b2, b3⟩
          · rintro (q | ⟨b, b1, b2, b3⟩)
            · exact Or.inl q
            · by_cases eb : b = i
              · rw [eb] at b3; exact absurd e b3
              · exact Or.inr ⟨b, by omega, b2, b3⟩
        · rw [if_neg e, ih true (v + 1) (i + 1) (by omega) (by omega) (by omega)]
          exact ⟨fun _ => Or.inr ⟨i, Nat.le_refl i, by omega, e⟩, fun _ => Or.inl rfl⟩
theorem y_f13 {x : Int32} (hx : 0 ≤ x.toInt ∧ x.toInt < 4) : ((12 * x + 12 : Int32).toInt - (12 * x : Int32).toInt).toNat + 1 = 13 := by
  have e12 := z12 hx (b := 12) (by decide)
  simp only [Int32.reduceToInt] at e12
  rw [e12, z12' hx]; omega
theorem v_hd {d x : Int32} {M N : Mem} (h : zR d M N) (hx : 0 ≤ x.toInt ∧ x.toInt < 4) : f_X5_hasData x N = true ↔ hd M x.toNatClampNeg := by
  have := v_lhd h hx 13 false (12 * x) 0 (by rw [z12' hx]; omega) (by omega) (by omega)
  unfold f_X5_hasData hd
  simp only [zlet]
  rw [y_f13 hx]
  refine Iff.trans this ⟨?_, ?_⟩
  · rintro (q | ⟨b, _, b2, b3⟩)
    · exact absurd q (by decide)
    · exact ⟨b, b2, b3⟩
  · rintro ⟨b, b2, b3⟩; exact Or.inr ⟨b, by omega, b2, b3⟩
theorem v_lch {d x : Int32} {M N : Mem} (h : zR d M N) (hx : 0 ≤ x.toInt ∧ x.toInt < 4) : ∀ (k : Nat) (w : Bool) (v : Int32) (i : Nat), v.toInt = 12 * x.toInt + i → i ≤ 12 → 12 - i + 1 ≤ k →
    ((l_X5_isChanged_7 x N k w v).1 = true ↔ w = true ∨ ∃ b : Nat, i ≤ b ∧ b < 12 ∧ M 15 (12 * x.toNatClampNeg + b) ≠ -1) := by
  intro k
  induction k with
  | zero => intro w v i _ _ h; omega
  | succ k ih =>
    intro w v i hv hi hk
    show ((b_X5_isChanged_7 x N (l_X5_isChanged_7 x N k) w v).1 = true ↔ _)
    unfold b_X5_isChanged_7
    have e12 := z12 hx (b := 12) (by decide)
    simp only [Int32.reduceToInt] at e12
    have hxN := y_N hx.1
    by_cases hg : 12 * x + 12 ≤ v
    · rw [if_pos hg]
      rw [Int32.le_iff_toInt_le, e12] at hg
      constructor
      · intro q; exact Or.inl q
      · rintro (q | ⟨b, b1, b2, _⟩)
        · exact q
        · omega
    · rw [if_neg hg]
      have hn := z_p1 hg
      rw [Int32.le_iff_toInt_le, e12] at hg
      have hvN := y_N (v := v) (by omega)
      cases w with
      | true => rw [if_pos rfl, ih true (v + 1) (i + 1) (by omega) (by omega) (by omega)]; simp
      | false =>
        rw [if_neg (by decide), show v.toNatClampNeg = 12 * x.toNatClampNeg + i by omega, ← h.1 _ (by omega)]
        by_cases e : M 15 (12 * x.toNatClampNeg + i) = -1
        · rw [if_pos e, ih false (v + 1) (i + 1) (by omega) (by omega) (by omega)]
          constructor
          · rintro (q | ⟨b, b1, b2, b3⟩)
            · exact Or.inl q
            · exact Or.inr ⟨b, by omega, b2, b3⟩
          · rintro (q | ⟨b, b1, b2, b3⟩)
            · exact Or.inl q
            · by_cases eb : b = i
              · rw [eb] at b3; exact absurd e b3
              · exact Or.inr ⟨b, by omega, b2, b3⟩
        · rw [if_neg e, ih true (v + 1) (i + 1) (by omega) (by omega) (by omega)]
          exact ⟨fun _ => Or.inr ⟨i, Nat.le_refl i, by omega, e⟩, fun _ => Or.inl rfl⟩
theorem v_ch {d x : Int32} {M N : Mem} (h : zR d M N) (hx : 0 ≤ x.toInt ∧ x.toInt < 4) : f_X5_isChanged x N = true ↔ ch M x.toNatClampNeg := by
  have := v_lch h hx 13 false (12 * x) 0 (by rw [z12' hx]; omega) (by omega) (by omega)
  unfold f_X5_isChanged ch
  simp only [zlet]
  rw [y_f13 hx]
  refine Iff.trans this ⟨?_, ?_⟩
  · rintro (q | ⟨b, _, b2, b3⟩)
    · exact absurd q (by decide)
    · exact ⟨b, b2, b3⟩
  · rintro ⟨b, b2, b3⟩; exact Or.inr ⟨b, by omega, b2, b3⟩
theorem u_lhda {M : Mem} : ∀ (k : Nat) (v : Int32) (i : Nat), v.toInt = i → i ≤ 4 → 4 - i + 1 ≤ k →
    (Sum.elim (fun r => r) (fun _ => false) (l_X4_hasDataAnywhere_2 M k v) = true ↔ ∃ f : Nat, i ≤ f ∧ f < 4 ∧ hd M f) := by
  intro k
  induction k with
  | zero => intro v i _ _ h; omega
  | succ k ih =>
    intro v i hv hi hk
    show (Sum.elim (fun r => r) (fun _ => false) (b_X4_hasDataAnywhere_2 M (l_X4_hasDataAnywhere_2 M k) v) = true ↔ _)
    unfold b_X4_hasDataAnywhere_2
    by_cases hg : 4 ≤ v
    · rw [if_pos hg]
      rw [Int32.le_iff_toInt_le] at hg
      simp only [Int32.reduceToInt] at hg
      constructor
      · intro q; exact absurd q (by simp)
      · rintro ⟨b, b1, b2, _⟩; omega
    · rw [if_neg hg]
      have hn := z_p1 hg
      rw [Int32.le_iff_toInt_le] at hg
      simp only [Int32.reduceToInt] at hg
      have hvN := y_N (v := v) (by omega)
      have g := u_hd (M := M) (x := v) (by omega)
      rw [show v.toNatClampNeg = i by omega] at g
      by_cases e : f_X4_hasData v M = true
      · rw [if_pos e]
        exact ⟨fun _ => ⟨i, Nat.le_refl i, by omega, g.mp e⟩, fun _ => rfl⟩
      · rw [if_neg e, ih (v + 1) (i + 1) (by omega) (by omega) (by omega)]
        constructor
        · rintro ⟨b, b1, b2, b3⟩; exact ⟨b, by omega, b2, b3⟩
        · rintro ⟨b, b1, b2, b3⟩
          by_cases eb : b = i
          · rw [eb] at b3; exact absurd (g.mpr b3) e
          · exact ⟨b, by omega, b2, b3⟩
theorem u_hda {M : Mem} : f_X4_hasDataAnywhere M = true ↔ ∃ f : Nat, f < 4 ∧ hd M f := by
  have := u_lhda (M := M) 5 0 0 rfl (by omega) (by omega)
  refine Iff.trans this ⟨?_, ?_⟩
  · rintro ⟨b, _, b2, b3⟩; exact ⟨b, b2, b3⟩
  · rintro ⟨b, b2, b3⟩; exact ⟨b, by omega, b2, b3⟩
end
