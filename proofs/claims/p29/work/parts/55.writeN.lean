section
/-! ===== PURE, sync: the reference writes ===== -/
def SN (M1 Nb : Mem) (P : Nat → Prop) (N : Mem) : Prop :=
  (∀ j, j ≠ 4 → j ≠ 5 → j ≠ 6 → j ≠ 7 → j ≠ 9 → j ≠ 13 → N j = Nb j) ∧
  (∀ p, p < 53 → (P p → N 4 p = M1 18 p ∧ N 5 p = M1 19 p ∧ N 6 p = (if M1 18 p = -1 then 0 else M1 3 1) ∧ N 7 p = (if M1 18 p = -1 then 0 else cC M1 p)) ∧
    (¬ P p → N 4 p = M1 11 p ∧ N 5 p = M1 12 p ∧ N 6 p = M1 14 p ∧ N 7 p = M1 13 p)) ∧
  (∀ s c, s < 2 → c < 120 → ((∃ p, p < 53 ∧ P p ∧ (M1 18 p = nI c ∨ M1 19 p = nI c)) → M1 8 (2 * (c / 40) + s) = 0 → N 9 (2 * c + s) = 0) ∧
    (¬ (∃ p, p < 53 ∧ P p ∧ (M1 18 p = nI c ∨ M1 19 p = nI c)) ∨ M1 8 (2 * (c / 40) + s) ≠ 0 → N 9 (2 * c + s) = M1 7 (120 * s + c))) ∧
  (∀ c, c < 120 → (N 13 c = 0 ∨ N 13 c = 1) ∧ (N 13 c = 1 ↔ ∃ p, p < 53 ∧ P p ∧ (M1 11 p = nI c ∨ M1 12 p = nI c)))
theorem SN_congr {M1 Nb N : Mem} {P P' : Nat → Prop} (h : SN M1 Nb P N) (hP : ∀ p, p < 53 → (P p ↔ P' p)) : SN M1 Nb P' N := by
  obtain ⟨h1, h3, h4, h5⟩ := h
  have ex (A : Nat → Prop) : (∃ p, p < 53 ∧ P p ∧ A p) ↔ ∃ p, p < 53 ∧ P' p ∧ A p := by
    constructor
    · rintro ⟨p, p1, p2, p3⟩; exact ⟨p, p1, (hP p p1).mp p2, p3⟩
    · rintro ⟨p, p1, p2, p3⟩; exact ⟨p, p1, (hP p p1).mpr p2, p3⟩
  refine ⟨h1, fun p hp => ?_, fun s c hs hc => ?_, fun c hc => ?_⟩
  · rw [← hP p hp]; exact h3 p hp
  · rw [← ex]; exact h4 s c hs hc
  · rw [← ex]; exact h5 c hc
theorem SN_step {M1 Nb N N' : Mem} {P : Nat → Prop} {p : Nat} (h : SN M1 Nb P N) (hp : p < 53)
    (g0 : ∀ j, j ≠ 4 → j ≠ 5 → j ≠ 6 → j ≠ 7 → j ≠ 9 → j ≠ 13 → N' j = N j)
    (g4 : N' 4 = upd (N 4) p (M1 18 p)) (g5 : N' 5 = upd (N 5) p (M1 19 p)) (g6 : N' 6 = upd (N 6) p (if M1 18 p = -1 then 0 else M1 3 1)) (g7 : N' 7 = upd (N 7) p (if M1 18 p = -1 then 0 else cC M1 p))
    (g9 : ∀ s c, s < 2 → c < 120 → N' 9 (2 * c + s) = if (M1 18 p = nI c ∨ M1 19 p = nI c) ∧ M1 8 (2 * (c / 40) + s) = 0 then 0 else N 9 (2 * c + s))
    (g13 : ∀ c, c < 120 → N' 13 c = if M1 11 p = nI c ∨ M1 12 p = nI c then 1 else N 13 c) : SN M1 Nb (fun q => P q ∨ q = p) N' := by
  obtain ⟨h1, h3, h4, h5⟩ := h
  have ex (A : Nat → Prop) : (∃ q, q < 53 ∧ (P q ∨ q = p) ∧ A q) ↔ (∃ q, q < 53 ∧ P q ∧ A q) ∨ A p := by
    constructor
    · rintro ⟨q, q1, q2, q3⟩
      rcases q2 with q2 | q2
      · exact Or.inl ⟨q, q1, q2, q3⟩
      · rw [q2] at q3; exact Or.inr q3
    · rintro (⟨q, q1, q2, q3⟩ | q3)
      · exact ⟨q, q1, Or.inl q2, q3⟩
      · exact ⟨p, hp, Or.inr rfl, q3⟩
  refine ⟨?_, ?_, ?_, ?_⟩
  · intro j j1 j2 j3 j4 j5 j6
    rw [g0 j j1 j2 j3 j4 j5 j6]; exact h1 j j1 j2 j3 j4 j5 j6
  · intro q hq
    rw [g4, g5, g6, g7]
    by_cases e : q = p
    · subst e
      rw [pk_us, pk_us, pk_us, pk_us]
      exact ⟨fun _ => ⟨rfl, rfl, rfl, rfl⟩, fun w => absurd (Or.inr rfl) w⟩
    · rw [pk_un e, pk_un e, pk_un e, pk_un e]
      exact ⟨fun w => (h3 q hq).1 (w.resolve_right e), fun w => (h3 q hq).2 (fun r => w (Or.inl r))⟩
  · intro s c hs hc
    rw [g9 s c hs hc, ex (fun q => M1 18 q = nI c ∨ M1 19 q = nI c)]
    obtain ⟨k1, k2⟩ := h4 s c hs hc
    by_cases on : M1 8 (2 * (c / 40) + s) = 0
    · by_cases e : M1 18 p = nI c ∨ M1 19 p = nI c
      · rw [if_pos ⟨e, on⟩]
        exact ⟨fun _ _ => rfl, fun w => w.elim (fun r => absurd (Or.inr e) r) (fun r => absurd on r)⟩
      · rw [if_neg (fun w => e w.1)]
        refine ⟨fun w => k1 (w.resolve_right e), fun w => k2 (w.elim (fun r => Or.inl (fun u => r (Or.inl u))) Or.inr)⟩
    · rw [if_neg (fun w => on w.2)]
      exact ⟨fun _ w => absurd w on, fun _ => k2 (Or.inr on)⟩
  · intro c hc
    rw [g13 c hc, ex (fun q => M1 11 q = nI c ∨ M1 12 q = nI c)]
    obtain ⟨k1, k2⟩ := h5 c hc
    by_cases e : M1 11 p = nI c ∨ M1 12 p = nI c
    · rw [if_pos e]; exact ⟨Or.inr rfl, fun _ => Or.inr e, fun _ => rfl⟩
    · rw [if_neg e]; exact ⟨k1, fun q => Or.inl (k2.mp q), fun q => k2.mpr (q.resolve_right e)⟩
end
