/-! ===== PURE: what is lost; reading; all is read ===== -/
section
/-- a synced block that cannot be read -/
def lo (M : Mem) (k : Nat) : Bool := ! decide (M 11 k = -1) && ! (fe M 52 && fe M (48 + k / 12) && fe M k)
theorem y_missing {M : Mem} {p : Nat} (hp : p < 53) : f_X3_isMissing (nI p) M = decide (M 11 p = -1) := by
  unfold f_X3_isMissing
  rw [u_pl0 (nI_53 hp), nI_clamp (by omega)]
  by_cases e : M 11 p = -1 <;> simp [e]
theorem lo_in {M : Mem} {f : Nat} {x3 : Bool} (hf : f < 4) (h3 : x3 = (fe M 52 && fe M (48 + f))) : ∀ (j k b : Nat), b + j = 12 → j + 1 ≤ k →
    (l_X4_lost_38 (nI f) x3 M k (nI (ctb (lo M) (12 * f + b))) (nI b)).1 = nI (ctb (lo M) (12 * f + 12)) := by
  intro j
  induction j with
  | zero =>
    intro k b hb hk
    have e : b = 12 := by omega
    subst e
    cases k with
    | zero => omega
    | succ k =>
      show (b_X4_lost_38 (nI f) x3 M (l_X4_lost_38 (nI f) x3 M k) _ (nI 12)).1 = _
      unfold b_X4_lost_38
      rw [if_pos (by decide)]
  | succ j ih =>
    intro k b hb hk
    cases k with
    | zero => omega
    | succ k =>
      have hp : 12 * f + b < 53 := by omega
      have e12 : (12 * f + b) / 12 = f := by omega
      show (b_X4_lost_38 (nI f) x3 M (l_X4_lost_38 (nI f) x3 M k) _ (nI b)).1 = _
      unfold b_X4_lost_38
      rw [if_neg (nI_ge12 (by omega)), y_bpn, nI_1, y_missing hp]
      have nx := ih k (b + 1) (by omega) (by omega)
      have ec : ctb (lo M) (12 * f + (b + 1)) = ctb (lo M) (12 * f + b) + (if lo M (12 * f + b) = true then 1 else 0) := rfl
      have eF : f_X4_canFetch (nI (12 * f + b)) M = fe M (12 * f + b) := rfl
      rw [eF]
      by_cases h1 : M 11 (12 * f + b) = -1
      · have e0 : lo M (12 * f + b) = false := by unfold lo; rw [h1]; rfl
        rw [e0] at ec
        rw [show decide (M 11 (12 * f + b) = -1) = true by simp [h1], if_pos rfl]
        rw [ec] at nx
        exact nx
      · rw [show decide (M 11 (12 * f + b) = -1) = false by simp [h1], if_neg (by decide)]
        have e0 : lo M (12 * f + b) = ! (x3 && fe M (12 * f + b)) := by unfold lo; rw [e12, ← h3]; simp [h1]
        cases x3 with
        | true =>
          rw [if_pos rfl]
          by_cases h2 : fe M (12 * f + b) = true
          · rw [if_pos h2]
            rw [e0, h2] at ec
            rw [ec] at nx
            exact nx
          · rw [if_neg h2, nI_1]
            have h2' : fe M (12 * f + b) = false := by simpa using h2
            rw [e0, h2'] at ec
            rw [ec] at nx
            exact nx
        | false =>
          rw [if_neg (by decide), nI_1]
          rw [e0] at ec
          rw [ec] at nx
          exact nx
theorem lo_out {M : Mem} : ∀ (j k f : Nat), f + j = 4 → j + 1 ≤ k → (l_X4_lost_4 M k (nI (ctb (lo M) (12 * f))) (nI f)).1 = nI (ctb (lo M) 48) := by
  intro j
  induction j with
  | zero =>
    intro k f hb hk
    have e : f = 4 := by omega
    subst e
    cases k with
    | zero => omega
    | succ k =>
      show (b_X4_lost_4 M (l_X4_lost_4 M k) _ (nI 4)).1 = _
      unfold b_X4_lost_4
      rw [if_pos (by decide)]
  | succ j ih =>
    intro k f hb hk
    cases k with
    | zero => omega
    | succ k =>
      have hf : f < 4 := by omega
      show (b_X4_lost_4 M (l_X4_lost_4 M k) _ (nI f)).1 = _
      unfold b_X4_lost_4
      rw [if_neg (nI_ge4 hf), y_fpn, nI_1]
      simp only [zlet]
      have ej : (if f_X4_canFetch 52 M = true then (if f_X4_canFetch (nI (48 + f)) M = true then true else false) else false) = (fe M 52 && fe M (48 + f)) := by
        show (if fe M 52 = true then (if fe M (48 + f) = true then true else false) else false) = _
        cases fe M 52 <;> cases fe M (48 + f) <;> rfl
      rw [ej]
      have li := lo_in (M := M) hf rfl 12 13 0 (by omega) (by omega)
      have z0 : (nI 0) = (0 : Int32) := rfl
      rw [Nat.add_zero, z0] at li
      rw [li]
      have nx := ih k (f + 1) (by omega) (by omega)
      rw [show 12 * (f + 1) = 12 * f + 12 by omega] at nx
      exact nx
theorem u_lost (M : Mem) : f_X4_lost M = nI (ctb (lo M) 48) := by
  have h := lo_out (M := M) 4 5 0 (by omega) (by omega)
  exact h
theorem lost_congr {M M' : Mem} (h11 : M' 11 = M 11) (hf : ∀ q, q < 53 → fe M' q = fe M q) : f_X4_lost M' = f_X4_lost M := by
  rw [u_lost, u_lost, ctb_congr 48 (fun k hk => ?_)]
  unfold lo
  rw [h11, hf 52 (by decide), hf (48 + k / 12) (by omega), hf k (by omega)]
theorem ctb_pos {f : Nat → Bool} {i : Nat} (hi : f i = true) : ∀ n, i < n → 0 < ctb f n := by
  intro n
  induction n with
  | zero => intro h; omega
  | succ n ih =>
    intro h
    unfold ctb
    by_cases e : i = n
    · rw [← e, if_pos hi]; omega
    · have := ih (by omega); omega
theorem lost_pos {M : Mem} {k : Nat} (hk : k < 48) (h : lo M k = true) : 0 < f_X4_lost M := by
  rw [u_lost]
  have h1 := ctb_pos h 48 hk
  have h2 := ctb_le (lo M) 48
  exact nI_lt (a := 0) h1 (by omega)
theorem lost_0 {M : Mem} (h : ∀ k, k < 48 → lo M k = false) : f_X4_lost M = 0 := by rw [u_lost, ctb_0 48 h]; rfl
-- reading
theorem isGood_congr {M M' : Mem} {x s : Int32} (h6 : M' 6 = M 6) (h7 : M' 7 = M 7) (h8 : M' 8 = M 8) : f_X0_isGood x s M' = f_X0_isGood x s M := by
  unfold f_X0_isGood
  rw [h6, h7, h8]
theorem fe_0 {M : Mem} {i : Nat} {x : Int32} {q : Nat} (hq : q < 53) : fe (mup M 0 i x) q = fe M q := by
  have e : ∀ j, j ≠ 0 → mup M 0 i x j = M j := fun j hj => by unfold mup; rw [mset_ne hj]
  rw [u_fe hq, u_fe hq, e 11 (by decide), e 12 (by decide)]
  unfold gd
  rw [isGood_congr (M' := mup M 0 i x) (e 6 (by decide)) (e 7 (by decide)) (e 8 (by decide)), isGood_congr (M' := mup M 0 i x) (e 6 (by decide)) (e 7 (by decide)) (e 8 (by decide)), isGood_congr (M' := mup M 0 i x) (e 6 (by decide)) (e 7 (by decide)) (e 8 (by decide)), isGood_congr (M' := mup M 0 i x) (e 6 (by decide)) (e 7 (by decide)) (e 8 (by decide))]
theorem spc_0 (M : Mem) (i : Nat) (x : Int32) : spc (mup M 0 i x) = spc M := by
  have e : ∀ j, j ≠ 0 → mup M 0 i x j = M j := fun j hj => by unfold mup; rw [mset_ne hj]
  unfold spc
  refine ctb_congr 240 (fun i hi => ?_)
  unfold spf
  rw [e 6 (by decide), e 7 (by decide)]
/-- a pointer that is there and cannot be read -/
def un (M : Mem) (p : Nat) : Prop := M 11 p ≠ -1 ∧ fe M p = false
theorem y_unread {M : Mem} {p : Nat} (hp : p < 53) : f_X4_isUnreadable (nI p) M = true ↔ un M p := by
  unfold f_X4_isUnreadable un
  rw [y_missing hp]
  have eF : f_X4_canFetch (nI p) M = fe M p := rfl
  rw [eF]
  by_cases e : M 11 p = -1
  · simp [e]
  · cases fe M p <;> simp [e]
theorem not_un {M : Mem} {p : Nat} (h : ¬ un M p) : fe M p = true ∨ M 11 p = -1 := by
  by_cases e : M 11 p = -1
  · exact Or.inr e
  · left
    cases h2 : fe M p with
    | true => rfl
    | false => exact absurd ⟨e, h2⟩ h
theorem read_c {n : Int} {f b : Nat} {P : Mem} (hf : f < 4) (hb : b < 12) (h : zI n P) :
    (P 15 (12 * f + b) ≠ -1 ∧ f_X4_read (nI f) (nI b) P = (.inl (P 15 (12 * f + b)), P)) ∨
    (P 15 (12 * f + b) = -1 ∧ (un P 52 ∨ un P (48 + f) ∨ un P (12 * f + b)) ∧ f_X4_read (nI f) (nI b) P = (.inr "java/lang/IllegalStateException", P)) ∨
    (P 15 (12 * f + b) = -1 ∧ (¬ un P 52 ∧ ¬ un P (48 + f) ∧ ¬ un P (12 * f + b)) ∧ ∃ (v : Int32) (A : Mem), SC v P A ∧ f_X4_read (nI f) (nI b) P = (.inl (P 10 (12 * f + b)), mup A 0 5 (P 0 5 + v))) := by
  have hk : 12 * f + b < 48 := by omega
  have h48 : 0 ≤ (nI (12 * f + b)).toInt ∧ (nI (12 * f + b)).toInt < 48 := nI_r (N := 48) hk (by decide)
  unfold f_X4_read
  rw [if_pos (q_bf hf hb), y_bpn, y_fpn, u_holds h48, nI_clamp (by omega)]
  by_cases e : P 15 (12 * f + b) = -1
  · rw [show (!decide (P 15 (12 * f + b) = -1)) = false by simp [e], if_neg (by decide)]
    right
    have z52 : (52 : Int32) = nI 52 := rfl
    rw [z52]
    by_cases u1 : un P 52
    · rw [if_pos ((y_unread (by decide)).mpr u1)]; exact Or.inl ⟨e, Or.inl u1, rfl⟩
    · rw [if_neg (fun z => u1 ((y_unread (by decide)).mp z))]
      by_cases u2 : un P (48 + f)
      · rw [if_pos ((y_unread (by omega)).mpr u2)]; exact Or.inl ⟨e, Or.inr (Or.inl u2), rfl⟩
      · rw [if_neg (fun z => u2 ((y_unread (by omega)).mp z))]
        by_cases u3 : un P (12 * f + b)
        · rw [if_pos ((y_unread (by omega)).mpr u3)]; exact Or.inl ⟨e, Or.inr (Or.inr u3), rfl⟩
        · rw [if_neg (fun z => u3 ((y_unread (by omega)).mp z))]
          refine Or.inr ⟨e, ⟨u1, u2, u3⟩, ?_⟩
          simp only [zlet]
          obtain ⟨a1, a2⟩ := hug_hz (p := 52) (by decide) h
          have S1 := SC.of (p := 52) (by decide) h a1 a2 (not_un u1)
          revert S1
          generalize f_X4_healUpToGoodCell (nI 52) P = q1
          intro S1
          have h1 := zI_sK h S1.1
          obtain ⟨b1, b2⟩ := hug_hz (p := 48 + f) (by omega) h1
          have S2 := SC.of (p := 48 + f) (by omega) h1 b1 b2 (by rw [S1.2.1 _ (by omega), S1.1 11 (by decide)]; exact not_un u2)
          revert S2
          generalize f_X4_healUpToGoodCell (nI (48 + f)) q1.2 = q2
          intro S2
          have T2 := S1.trans S2
          have h2 := zI_sK h T2.1
          obtain ⟨c1, c2⟩ := hug_hz (p := 12 * f + b) (by omega) h2
          have S3 := SC.of (p := 12 * f + b) (by omega) h2 c1 c2 (by rw [T2.2.1 _ (by omega), T2.1 11 (by decide)]; exact not_un u3)
          revert S3
          generalize f_X4_healUpToGoodCell (nI (12 * f + b)) q2.2 = q3
          intro S3
          have T3 := T2.trans S3
          refine ⟨_, q3.2, T3, ?_⟩
          rw [u_valueOf h48, nI_clamp (by omega)]
          have e10 : (mup q3.2 0 5 (P 0 5 + (q1.1 + q2.1 + q3.1))) 10 = P 10 := by unfold mup; rw [mset_ne (by decide), T3.1 10 (by decide)]
          rw [e10]
  · rw [show (!decide (P 15 (12 * f + b) = -1)) = true by simp [e], if_pos rfl, u_changeOf h48, nI_clamp (by omega)]
    exact Or.inl ⟨e, rfl⟩
end
