/-! ===== THE LAW'S METHODS: what the class's methods throw; what the law's methods answer ===== -/
section
/-- the law's method's answer; what the long array holds -/
def wk {α : Type} (E : String → Int32) (a : α ⊕ String) : Int32 := Sum.elim (fun _ => 0) E a
def wv {α : Type} (f : α → Int64) (v : Int64) (a : α ⊕ String) : Int64 := Sum.elim f (fun _ => v) a
def bL (b : Bool) : Int64 := if b then 1 else 0
theorem t_write {a b c : Int32} {M : Mem} {e : String} (h : (f_X4_write a b c M).1 = .inr e) : e = "java/lang/IllegalArgumentException" := by
  unfold f_X4_write at h; simp only [zlet] at h; split at h <;> first | (split at h <;> first | (split at h <;> (cases h; try rfl)) | (cases h; try rfl)) | (cases h; try rfl)
theorem t_punch {a b c : Int32} {M : Mem} {e : String} (h : (f_X4_punch a b c M).1 = .inr e) : e = "java/lang/IllegalArgumentException" := by
  unfold f_X4_punch at h; simp only [zlet] at h; split at h <;> first | (split at h <;> first | (split at h <;> (cases h; try rfl)) | (cases h; try rfl)) | (cases h; try rfl)
theorem t_setCopies {a b : Int32} {M : Mem} {e : String} (h : (f_X4_setCopies a b M).1 = .inr e) : e = "java/lang/IllegalArgumentException" := by
  unfold f_X4_setCopies at h; split at h <;> first | (split at h <;> first | (split at h <;> (cases h; try rfl)) | (cases h; try rfl)) | (cases h; try rfl)
theorem t_read {a b : Int32} {M : Mem} {e : String} (h : (f_X4_read a b M).1 = .inr e) : e = "java/lang/IllegalArgumentException" ∨ e = "java/lang/IllegalStateException" := by
  unfold f_X4_read at h; simp only [zlet] at h
  by_cases h1 : f_X4_isBlockOfFile a b = true
  · rw [if_pos h1] at h
    by_cases h2 : f_X2_holds (f_X4_blockPointer a b) M = true
    · rw [if_pos h2] at h; cases h
    · rw [if_neg h2] at h
      split at h
      · cases h; exact Or.inr rfl
      · split at h
        · cases h; exact Or.inr rfl
        · split at h
          · cases h; exact Or.inr rfl
          · cases h
  · rw [if_neg h1] at h; cases h; exact Or.inl rfl
theorem t_lnd {a : Int32} {M : Mem} {e : String} : ∀ (k : Nat) (v : Int32), l_X4_nextData_20 a M k v ≠ .inl (.inr e) := by
  intro k
  induction k with
  | zero => intro v h; cases h
  | succ k ih =>
    intro v h
    replace h : b_X4_nextData_20 a M (l_X4_nextData_20 a M k) v = .inl (.inr e) := h
    unfold b_X4_nextData_20 at h
    split at h
    · cases h
    · split at h
      · exact ih _ h
      · cases h
theorem t_lnh {a : Int32} {M : Mem} {e : String} : ∀ (k : Nat) (v : Int32), l_X4_nextHole_20 a M k v ≠ .inl (.inr e) := by
  intro k
  induction k with
  | zero => intro v h; cases h
  | succ k ih =>
    intro v h
    replace h : b_X4_nextHole_20 a M (l_X4_nextHole_20 a M k) v = .inl (.inr e) := h
    unfold b_X4_nextHole_20 at h
    split at h
    · cases h
    · split at h
      · exact ih _ h
      · cases h
theorem t_lof {a b : Int32} {M : Mem} {r : (Unit ⊕ String) × Mem} : ∀ (k : Nat) (v : Int32), l_X4_offline_20 a b M k v = .inl r → r = (.inr "java/lang/IllegalStateException", M) := by
  intro k
  induction k with
  | zero => intro v h; cases h
  | succ k ih =>
    intro v h
    replace h : b_X4_offline_20 a b M (l_X4_offline_20 a b M k) v = .inl r := h
    unfold b_X4_offline_20 at h
    split at h
    · cases h
    · split at h
      · exact ih _ h
      · cases h; rfl
theorem t_nextData {a b : Int32} {M : Mem} {e : String} (h : f_X4_nextData a b M = .inr e) : e = "java/lang/IllegalArgumentException" ∨ e = "java/util/NoSuchElementException" := by
  unfold f_X4_nextData at h; simp only [zlet] at h
  split at h
  · generalize hr : l_X4_nextData_20 a M (((12 : Int32).toInt - b.toInt).toNat + 1) b = r at h
    rcases r with (r | r) | r
    · cases h
    · exact absurd hr (t_lnd _ _)
    · cases h; exact Or.inr rfl
  · cases h; exact Or.inl rfl
theorem t_nextHole {a b : Int32} {M : Mem} {e : String} (h : f_X4_nextHole a b M = .inr e) : e = "java/lang/IllegalArgumentException" := by
  unfold f_X4_nextHole at h; simp only [zlet] at h
  split at h
  · generalize hr : l_X4_nextHole_20 a M (((12 : Int32).toInt - b.toInt).toNat + 1) b = r at h
    rcases r with (r | r) | r
    · cases h
    · exact absurd hr (t_lnh _ _)
    · cases h
  · cases h; rfl
theorem t_sync {M : Mem} {e : String} (h : (f_X4_sync M).1 = .inr e) : e = "java/lang/IllegalStateException" := by
  unfold f_X4_sync at h; simp only [zlet] at h
  split at h
  · cases h
  · split at h
    · cases h
    · cases h; rfl
theorem t_offline {a b : Int32} {M : Mem} {e : String} (h : (f_X4_offline a b M).1 = .inr e) : e = "java/lang/IllegalArgumentException" ∨ e = "java/lang/IllegalStateException" := by
  unfold f_X4_offline at h; simp only [zlet] at h
  split at h
  · generalize hr : l_X4_offline_20 a b M 3 0 = r at h
    rcases r with r | r
    · rw [t_lof _ _ hr] at h; cases h; exact Or.inr rfl
    · cases h
  · cases h; exact Or.inl rfl
theorem t_online {a b : Int32} {M : Mem} {e : String} (h : (f_X4_online a b M).1 = .inr e) : e = "java/lang/IllegalArgumentException" ∨ e = "java/lang/IllegalStateException" := by
  unfold f_X4_online at h; simp only [zlet] at h
  split at h
  · split at h
    · cases h; exact Or.inr rfl
    · cases h
  · cases h; exact Or.inl rfl
theorem t_spoil {a b c : Int32} {M : Mem} {e : String} (h : (f_X4_spoil a b c M).1 = .inr e) : e = "java/lang/IllegalArgumentException" ∨ e = "java/lang/IllegalStateException" := by
  unfold f_X4_spoil at h; simp only [zlet] at h
  split at h
  · split at h
    · split at h
      · split at h
        · split at h <;> cases h
        · cases h; exact Or.inr rfl
      · cases h; exact Or.inr rfl
    · cases h; exact Or.inl rfl
  · cases h; exact Or.inl rfl
theorem t_isSpoilt {a b c : Int32} {M : Mem} {e : String} (h : f_X4_isSpoilt a b c M = .inr e) : e = "java/lang/IllegalArgumentException" ∨ e = "java/lang/IllegalStateException" := by
  unfold f_X4_isSpoilt at h
  split at h
  · split at h
    · split at h
      · cases h
      · cases h; exact Or.inr rfl
    · cases h; exact Or.inl rfl
  · cases h; exact Or.inl rfl
theorem t_isFree {a b : Int32} {M : Mem} {e : String} (h : f_X4_isFree a b M = .inr e) : e = "java/lang/IllegalArgumentException" := by
  unfold f_X4_isFree at h
  split at h
  · split at h
    · split at h <;> cases h
    · cases h; rfl
  · cases h; rfl
theorem t_free {a : Int32} {M : Mem} {e : String} (h : f_X4_free a M = .inr e) : e = "java/lang/IllegalArgumentException" := by
  unfold f_X4_free at h; split at h <;> cases h; rfl
theorem t_places {a b : Int32} {M : Mem} {e : String} (h : f_X4_places a b M = .inr e) : e = "java/lang/IllegalArgumentException" := by
  unfold f_X4_places at h; split at h <;> cases h; rfl
theorem t_told {a : Int32} {e : String} (h : f_X4_told a = .inr e) : e = "java/util/NoSuchElementException" := by
  unfold f_X4_told at h; split at h <;> cases h; rfl
theorem t_place {a b c : Int32} {M : Mem} {e : String} (h : f_X4_place a b c M = .inr e) : e = "java/lang/IllegalArgumentException" ∨ e = "java/util/NoSuchElementException" := by
  unfold f_X4_place at h
  split at h
  · exact Or.inr (t_told h)
  · cases h; exact Or.inl rfl
theorem t_nodePlace {a b : Int32} {M : Mem} {e : String} (h : f_X4_nodePlace a b M = .inr e) : e = "java/lang/IllegalArgumentException" ∨ e = "java/util/NoSuchElementException" := by
  unfold f_X4_nodePlace at h
  split at h
  · exact Or.inr (t_told h)
  · cases h; exact Or.inl rfl
theorem t_rootPlace {a : Int32} {M : Mem} {e : String} (h : f_X4_rootPlace a M = .inr e) : e = "java/util/NoSuchElementException" := t_told h
theorem t_birth {a b : Int32} {M : Mem} {e : String} (h : f_X4_birth a b M = .inr e) : e = "java/lang/IllegalArgumentException" := by
  unfold f_X4_birth at h; split at h <;> cases h; rfl
theorem t_checksum {a : Int32} {M : Mem} {e : String} (h : f_X4_checksum a M = .inr e) : e = "java/lang/IllegalArgumentException" := by
  unfold f_X4_checksum at h; split at h <;> cases h; rfl
end
