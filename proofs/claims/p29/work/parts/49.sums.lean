section
/-! ===== PURE, sync: checksums of nodes; what is new ===== -/
def md (x : Int32) : Int32 := x - x / 65521 * 65521
def ns (f g : Nat → Int32) (a : Nat) : Nat → Int32
  | 0 => 1
  | n + 1 => md (ns f g a n * 131 + f (a + n) + g (a + n))
theorem ns_congr {f g f' g' : Nat → Int32} {a : Nat} (n : Nat) (h : ∀ i, i < n → f (a + i) = f' (a + i) ∧ g (a + i) = g' (a + i)) : ns f g a n = ns f' g' a n := by
  induction n with
  | zero => rfl
  | succ n ih => unfold ns; rw [ih (fun i hi => h i (by omega)), (h n (by omega)).1, (h n (by omega)).2]
theorem u_lns {b m : Int32} {M : Mem} {a n : Nat} (hb : b.toInt = a) (hm : m.toInt = n) (h53 : a + n ≤ 53) : ∀ (k : Nat) (v3 v4 : Int32) (i : Nat), v4.toInt = i → i ≤ n → v3 = ns (M 13) (M 14) a i → n - i + 1 ≤ k →
    (l_X3_checksumOfNode_5 b m M k v3 v4).1 = ns (M 13) (M 14) a n := by
  intro k
  induction k with
  | zero => intro v3 v4 i _ _ _ h; omega
  | succ k ih =>
    intro v3 v4 i h4 hi h3 hk
    show (b_X3_checksumOfNode_5 b m M (l_X3_checksumOfNode_5 b m M k) v3 v4).1 = _
    unfold b_X3_checksumOfNode_5
    by_cases hg : m ≤ v4
    · rw [if_pos hg]
      rw [Int32.le_iff_toInt_le] at hg
      have : i = n := by omega
      rw [this] at h3
      exact h3
    · rw [if_neg hg]
      have hn := z_p1 hg
      rw [Int32.le_iff_toInt_le] at hg
      have ea : (b + v4).toInt = a + i := by rw [z_addI (by omega) (by omega)]; omega
      have eN : (b + v4).toNatClampNeg = a + i := by simp only [Int32.toNatClampNeg, ea]; omega
      have hP := q_isPointer.mpr (show 0 ≤ (b + v4).toInt ∧ (b + v4).toInt < 53 by omega)
      unfold f_X3_checksumOf f_X3_birthOf
      rw [if_pos hP, if_pos hP, eN]
      exact ih _ _ (i + 1) (by omega) (by omega) (by rw [h3]; rfl) (by omega)
theorem u_ns {b m : Int32} {M : Mem} {a n : Nat} (hb : b.toInt = a) (hm : m.toInt = n) (h53 : a + n ≤ 53) : f_X3_checksumOfNode b m M = ns (M 13) (M 14) a n := by
  unfold f_X3_checksumOfNode
  simp only [zlet]
  exact u_lns hb hm h53 _ 1 0 0 rfl (by omega) rfl (by rw [hm]; simp only [Int32.reduceToInt]; omega)
theorem v_lns {b m : Int32} {N : Mem} {a n : Nat} (hb : b.toInt = a) (hm : m.toInt = n) (h53 : a + n ≤ 53) : ∀ (k : Nat) (v3 v4 : Int32) (i : Nat), v4.toInt = a + i → i ≤ n → v3 = ns (N 7) (N 6) a i → n - i + 1 ≤ k →
    (l_X5_nodeSum_5 b m N k v3 v4).1 = ns (N 7) (N 6) a n := by
  intro k
  induction k with
  | zero => intro v3 v4 i _ _ _ h; omega
  | succ k ih =>
    intro v3 v4 i h4 hi h3 hk
    show (b_X5_nodeSum_5 b m N (l_X5_nodeSum_5 b m N k) v3 v4).1 = _
    unfold b_X5_nodeSum_5
    have eb : (b + m).toInt = a + n := by rw [z_addI (by omega) (by omega)]; omega
    by_cases hg : b + m ≤ v4
    · rw [if_pos hg]
      rw [Int32.le_iff_toInt_le] at hg
      have : i = n := by omega
      rw [this] at h3
      exact h3
    · rw [if_neg hg]
      have hn := z_p1 hg
      rw [Int32.le_iff_toInt_le] at hg
      have eN : v4.toNatClampNeg = a + i := by simp only [Int32.toNatClampNeg, h4]; omega
      rw [eN]
      exact ih _ _ (i + 1) (by omega) (by omega) (by rw [h3]; rfl) (by omega)
theorem v_ns {b m : Int32} {N : Mem} {a n : Nat} (hb : b.toInt = a) (hm : m.toInt = n) (h53 : a + n ≤ 53) : f_X5_nodeSum b m N = ns (N 7) (N 6) a n := by
  have eb : (b + m).toInt = a + n := by rw [z_addI (by omega) (by omega)]; omega
  unfold f_X5_nodeSum
  simp only [zlet]
  exact v_lns hb hm h53 _ 1 b 0 (by omega) (by omega) rfl (by rw [eb, hb]; omega)
/-- which pointers a sync writes anew; M: the class's memory, its buffer decides -/
def nw (M : Mem) (p : Nat) : Bool := if p < 48 then ! decide (M 15 p = -1) else if p < 52 then f_X2_changes (nI (p - 48)) M else true
/-- checksums: of blocks, of files' nodes, of the root -/
def cB (M : Mem) (k : Nat) : Int32 := md (31 * M 15 k + 17)
def b13 (M : Mem) (k : Nat) : Int32 := if nw M k = true then (if M 18 k = -1 then 0 else cB M k) else M 13 k
def b14 (M : Mem) (p : Nat) : Int32 := if nw M p = true then (if M 18 p = -1 then 0 else M 3 1) else M 14 p
def f13 (M : Mem) (p : Nat) : Int32 := if nw M p = true then (if M 18 p = -1 then 0 else ns (b13 M) (b14 M) (12 * (p - 48)) 12) else M 13 p
def cC (M : Mem) (p : Nat) : Int32 := if p < 48 then cB M p else if p < 52 then ns (b13 M) (b14 M) (12 * (p - 48)) 12 else ns (f13 M) (b14 M) 48 4
/-- the pointers written before the time t -/
def dt (M : Mem) (t p : Nat) : Bool := nw M p && decide (tau p < t)
def aS (M : Mem) (t : Nat) (v : Int32) : Prop := v = sm (fun p => if dt M t p = true then cw M p else 0) 53
theorem SW_congr {M1 M : Mem} {Q P Q' P' : Nat → Prop} {C : Nat → Int32} (h : SW M1 Q P C M) (hQ : ∀ p, p < 53 → (Q p ↔ Q' p)) (hP : ∀ p, p < 53 → (P p ↔ P' p)) : SW M1 Q' P' C M := by
  obtain ⟨h1, h2, h3, h4⟩ := h
  refine ⟨h1, fun k hk => ?_, fun p hp => ?_, fun s c hs hc => ?_⟩
  · rw [← hQ k (by omega)]; exact h2 k hk
  · rw [← hP p hp]; exact h3 p hp
  · have e : (∃ p, p < 53 ∧ P p ∧ (M1 18 p = nI c ∨ M1 19 p = nI c)) ↔ ∃ p, p < 53 ∧ P' p ∧ (M1 18 p = nI c ∨ M1 19 p = nI c) := by
      constructor
      · rintro ⟨p, p1, p2, p3⟩; exact ⟨p, p1, (hP p p1).mp p2, p3⟩
      · rintro ⟨p, p1, p2, p3⟩; exact ⟨p, p1, (hP p p1).mpr p2, p3⟩
    rw [← e]; exact h4 s c hs hc
theorem SW_keep {M1 M : Mem} {Q P : Nat → Prop} {C : Nat → Int32} {k : Nat} {x : Int32} (h : SW M1 Q P C M) (hx : x = M1 15 k) : SW M1 (fun q => Q q ∨ q = k) P C (mup M 10 k x) := by
  obtain ⟨h1, h2, h3, h4⟩ := h
  refine ⟨fun j j7 j10 j11 j12 j13 j14 => ?_, fun q hq => ?_, by simpa [mup, mset] using h3, by simpa [mup, mset] using h4⟩
  · unfold mup; rw [mset_ne j10]; exact h1 j j7 j10 j11 j12 j13 j14
  · have e : (mup M 10 k x) 10 = upd (M 10) k x := by simp [mup, mset]
    rw [e]
    by_cases ek : q = k
    · subst ek
      rw [pk_us]
      exact ⟨fun _ => hx, fun w => absurd (Or.inr rfl) w⟩
    · rw [pk_un ek]
      exact ⟨fun w => (h2 q hq).1 (w.resolve_right ek), fun w => (h2 q hq).2 (fun r => w (Or.inl r))⟩
/-- nothing is new at the time t, or p0 is -/
theorem dt_no {M : Mem} {t p0 : Nat} (hb : ∀ p, p < 53 → tau p = t → p = p0) (h : nw M p0 = false) : ∀ p, p < 53 → dt M (t + 1) p = dt M t p := by
  intro p hp
  unfold dt
  by_cases e : tau p = t
  · rw [hb p hp e, h]; rfl
  · have : decide (tau p < t + 1) = decide (tau p < t) := by
      by_cases q : tau p < t
      · rw [decide_eq_true q, decide_eq_true (by omega)]
      · rw [decide_eq_false q, decide_eq_false (by omega)]
    rw [this]
theorem dt_yes {M : Mem} {t p0 : Nat} (hb : ∀ p, p < 53 → tau p = t → p = p0) (ht : tau p0 = t) (h : nw M p0 = true) : ∀ p, p < 53 → (dt M (t + 1) p = true ↔ dt M t p = true ∨ p = p0) := by
  intro p hp
  unfold dt
  by_cases e : p = p0
  · subst e
    rw [h, decide_eq_true (show tau p < t + 1 by omega)]
    exact ⟨fun _ => Or.inr rfl, fun _ => rfl⟩
  · have hne : tau p ≠ t := fun q => e (hb p hp q)
    rw [Bool.and_eq_true, Bool.and_eq_true, decide_eq_true_iff, decide_eq_true_iff]
    constructor
    · rintro ⟨q1, q2⟩; exact Or.inl ⟨q1, by omega⟩
    · rintro (⟨q1, q2⟩ | q)
      · exact ⟨q1, by omega⟩
      · exact absurd q e
end
