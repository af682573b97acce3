section
/-! ===== PURE, sync: choosing places ===== -/
def tau (p : Nat) : Nat := if p < 48 then 13 * (p / 12) + p % 12 else if p < 52 then 13 * (p - 48) + 12 else 52
def sm (g : Nat → Int32) : Nat → Int32
  | 0 => 0
  | n + 1 => sm g n + g n
theorem sm_un {g : Nat → Int32} {p : Nat} {x : Int32} : ∀ n, n ≤ p → sm (upd g p x) n = sm g n := by
  intro n
  induction n with
  | zero => intro _; rfl
  | succ n ih => intro h; unfold sm; rw [ih (by omega), pk_un (by omega)]
theorem sm_upd {g : Nat → Int32} {p : Nat} {x y : Int32} (hx : g p + y = x) : ∀ n, p < n → sm (upd g p x) n = sm g n + y := by
  intro n
  induction n with
  | zero => intro h; omega
  | succ n ih =>
    intro h
    unfold sm
    by_cases e : p = n
    · subst e
      rw [sm_un p (Nat.le_refl _), pk_us, ← hx, Int32.add_assoc]
    · rw [ih (by omega), pk_un (fun q => e q.symm), Int32.add_assoc, Int32.add_comm y, ← Int32.add_assoc]
/-- how many places are chosen for p -/
def cw (M : Mem) (p : Nat) : Int32 := if M 18 p = -1 then 0 else if M 19 p = -1 then 1 else 2
/-- no cell, or a free one -/
def cV (M0 : Mem) (c : Int32) : Prop := c = -1 ∨ ∃ d : Nat, d < 120 ∧ c = nI d ∧ M0 6 d = 0
def FM (M0 M : Mem) : Prop := ∀ j, j ≠ 16 → j ≠ 17 → j ≠ 18 → j ≠ 19 → M j = M0 j
def FN (N0 N : Mem) : Prop := (∀ j, j ≠ 0 → j ≠ 12 → j ≠ 14 → j ≠ 15 → j ≠ 16 → N j = N0 j) ∧ (∀ i, i ≠ 19 → N 0 i = N0 0 i) ∧ zPl (N 14) ∧ zPl (N 15)
def CH (M0 : Mem) (t : Nat) (M N : Mem) : Prop :=
  TK M N ∧ FM M0 M ∧ (∀ p, p < 53 → M 18 p = N 14 p ∧ M 19 p = N 15 p) ∧ (∀ c, c < 120 → N 12 c = 0 ∨ N 12 c = 1) ∧
  (∀ c, c < 120 → (N 12 c ≠ 0 ↔ M0 6 c = 1 ∨ ∃ p, p < 53 ∧ (M 18 p = nI c ∨ M 19 p = nI c))) ∧
  (∀ p, p < 53 → t ≤ tau p → M 18 p = -1 ∧ M 19 p = -1) ∧
  (∀ p, p < 53 → cV M0 (M 18 p) ∧ cV M0 (M 19 p)) ∧
  (∀ k l, k < 53 → l < 53 → (M 18 k = M 18 l → M 18 k ≠ -1 → k = l) ∧ (M 19 k = M 19 l → M 19 k ≠ -1 → k = l) ∧ (M 18 k = M 19 l → M 18 k = -1)) ∧
  (∀ k, k < 53 → M 19 k ≠ -1 → M 18 k ≠ -1 ∧ M 18 k / 40 ≠ M 19 k / 40) ∧
  N 0 19 = sm (cw M) 53
theorem nI_neg {c : Nat} (h : c < 120) : nI c ≠ -1 := y_ne1 (by rw [nI_toInt (by omega)]; omega)
theorem nI_inj {a b : Nat} (ha : a < 120) (hb : b < 120) (h : nI a = nI b) : a = b := (nI_eq (by omega) (by omega)).mp h
/-- nothing points to an untaken cell -/
theorem CH_new {M0 : Mem} {t c : Nat} {M N : Mem} (h : CH M0 t M N) (hc : c < 120) (h0 : N 12 c = 0) : ∀ p, p < 53 → M 18 p ≠ nI c ∧ M 19 p ≠ nI c := by
  intro p hp
  have g := h.2.2.2.2.1 c hc
  refine ⟨fun q => g.mpr (Or.inr ⟨p, hp, Or.inl q⟩) h0, fun q => g.mpr (Or.inr ⟨p, hp, Or.inr q⟩) h0⟩
theorem TK_same {M N M' N' : Mem} (h : TK M N) (h16 : M' 16 = M 16) (h17 : M' 17 = M 17) (h6 : M' 6 = M 6) (h12 : N' 12 = N 12) : TK M' N' := by
  unfold TK at *; rw [h16, h17, h6, h12]; exact h
theorem CH_first {M0 : Mem} {t c p : Nat} {M N M' N' : Mem} (h : CH M0 t M N) (hp : p < 53) (ht : tau p = t) (hc : c < 120) (h0 : N 12 c = 0) (h6 : M0 6 c = 0)
    (hT : TK M' N') (hM : ∀ j, j ≠ 16 → j ≠ 17 → M' j = M j) (h12 : N' 12 = upd (N 12) c 1) (h14 : N' 14 = N 14) (h15 : N' 15 = N 15) (h019 : N' 0 19 = N 0 19 + 1) :
    CH M0 (t + 1) (mup M' 18 p (nI c)) (mup N' 14 p (nI c)) := by
  have hnew := CH_new h hc h0
  obtain ⟨a1, a2, a3, a4, a5, a6, a7, a8, a9, a10⟩ := h
  have f := a6 p hp (by omega)
  have e18 : (mup M' 18 p (nI c)) 18 = upd (M 18) p (nI c) := by unfold mup; rw [mset_eq, hM 18 (by decide) (by decide)]
  have e19 : (mup M' 18 p (nI c)) 19 = M 19 := by unfold mup; rw [mset_ne (by decide), hM 19 (by decide) (by decide)]
  have e14 : (mup N' 14 p (nI c)) 14 = upd (N 14) p (nI c) := by unfold mup; rw [mset_eq, h14]
  have e15 : (mup N' 14 p (nI c)) 15 = N 15 := by unfold mup; rw [mset_ne (by decide), h15]
  have e12 : (mup N' 14 p (nI c)) 12 = upd (N 12) c 1 := by unfold mup; rw [mset_ne (by decide), h12]
  have hne := nI_neg hc
  refine ⟨TK_same hT (by simp [mup, mset]) (by simp [mup, mset]) (by simp [mup, mset]) (by simp [mup, mset]), ?_, ?_, ?_, ?_, ?_, ?_, ?_, ?_, ?_⟩
  · intro j j1 j2 j3 j4
    unfold mup; rw [mset_ne j3, hM j j1 j2]; exact a2 j j1 j2 j3 j4
  · intro k hk
    rw [e18, e19, e14, e15]
    unfold upd
    split
    · exact ⟨rfl, (a3 k hk).2⟩
    · exact a3 k hk
  · intro d hd
    rw [e12]
    unfold upd
    split
    · exact Or.inr rfl
    · exact a4 d hd
  · intro d hd
    rw [e12, e18, e19]
    by_cases ed : d = c
    · subst ed
      rw [pk_us]
      exact ⟨fun _ => Or.inr ⟨p, hp, Or.inl pk_us⟩, fun _ => by decide⟩
    · rw [pk_un ed, a5 d hd]
      constructor
      · rintro (q | ⟨k, hk, q⟩)
        · exact Or.inl q
        · by_cases ek : k = p
          · subst ek
            rw [f.1, f.2] at q
            rcases q with q | q <;> exact absurd q.symm (nI_neg hd)
          · exact Or.inr ⟨k, hk, by rw [pk_un ek]; exact q⟩
      · rintro (q | ⟨k, hk, q⟩)
        · exact Or.inl q
        · by_cases ek : k = p
          · subst ek
            rw [pk_us, f.2] at q
            rcases q with q | q
            · exact absurd (nI_inj hc hd q).symm ed
            · exact absurd q.symm (nI_neg hd)
          · rw [pk_un ek] at q
            exact Or.inr ⟨k, hk, q⟩
  · intro k hk hkt
    have ek : k ≠ p := by intro q; rw [q] at hkt; omega
    rw [e18, e19, pk_un ek]
    exact a6 k hk (by omega)
  · intro k hk
    rw [e18, e19]
    unfold upd
    split
    · exact ⟨Or.inr ⟨c, hc, rfl, h6⟩, (a7 k hk).2⟩
    · exact a7 k hk
  · intro k l hk hl
    rw [e18, e19]
    obtain ⟨b1, b2, b3⟩ := a8 k l hk hl
    by_cases ek : k = p
    · subst ek
      by_cases el : l = k
      · subst el
        exact ⟨fun _ _ => rfl, fun _ _ => rfl, fun q => by rw [pk_us, f.2] at q; exact absurd q hne⟩
      · rw [pk_us, pk_un el]
        exact ⟨fun q _ => absurd q.symm (hnew l hl).1, b2, fun q => absurd q.symm (hnew l hl).2⟩
    · rw [pk_un ek]
      by_cases el : l = p
      · subst el
        rw [pk_us]
        exact ⟨fun q _ => absurd q (hnew k hk).1, b2, b3⟩
      · rw [pk_un el]
        exact ⟨b1, b2, b3⟩
  · intro k hk
    rw [e18, e19]
    by_cases ek : k = p
    · subst ek
      intro q; exact absurd f.2 q
    · rw [pk_un ek]; exact a9 k hk
  · have e1 : (mup N' 14 p (nI c)) 0 19 = N 0 19 + 1 := by rw [← h019]; simp [mup, mset]
    have e2 : cw (mup M' 18 p (nI c)) = upd (cw M) p 1 := by
      funext k
      unfold cw
      rw [e18, e19]
      unfold upd
      by_cases ek : k = p
      · subst ek
        rw [if_pos rfl, if_pos rfl, if_neg hne, if_pos f.2]
      · rw [if_neg ek, if_neg ek]
    have e3 : cw M p = 0 := by unfold cw; rw [if_pos f.1]
    rw [e1, e2, sm_upd (y := 1) (by rw [e3]; rfl) 53 hp, ← a10]
theorem CH_second {M0 : Mem} {t c p : Nat} {M N M' N' : Mem} (h : CH M0 (t + 1) M N) (hp : p < 53) (ht : tau p = t) (hc : c < 120) (h0 : N 12 c = 0) (h6 : M0 6 c = 0) (f1 : M 18 p ≠ -1) (f2 : M 19 p = -1) (f3 : ¬ nI c / 40 = M 18 p / 40)
    (hT : TK M' N') (hM : ∀ j, j ≠ 16 → j ≠ 17 → M' j = M j) (h12 : N' 12 = upd (N 12) c 1) (h14 : N' 14 = N 14) (h15 : N' 15 = N 15) (h019 : N' 0 19 = N 0 19 + 1) :
    CH M0 (t + 1) (mup M' 19 p (nI c)) (mup N' 15 p (nI c)) := by
  have hnew := CH_new h hc h0
  obtain ⟨a1, a2, a3, a4, a5, a6, a7, a8, a9, a10⟩ := h
  have e18 : (mup M' 19 p (nI c)) 18 = M 18 := by unfold mup; rw [mset_ne (by decide), hM 18 (by decide) (by decide)]
  have e19 : (mup M' 19 p (nI c)) 19 = upd (M 19) p (nI c) := by unfold mup; rw [mset_eq, hM 19 (by decide) (by decide)]
  have e14 : (mup N' 15 p (nI c)) 14 = N 14 := by unfold mup; rw [mset_ne (by decide), h14]
  have e15 : (mup N' 15 p (nI c)) 15 = upd (N 15) p (nI c) := by unfold mup; rw [mset_eq, h15]
  have e12 : (mup N' 15 p (nI c)) 12 = upd (N 12) c 1 := by unfold mup; rw [mset_ne (by decide), h12]
  have hne := nI_neg hc
  refine ⟨TK_same hT (by simp [mup, mset]) (by simp [mup, mset]) (by simp [mup, mset]) (by simp [mup, mset]), ?_, ?_, ?_, ?_, ?_, ?_, ?_, ?_, ?_⟩
  · intro j j1 j2 j3 j4
    unfold mup; rw [mset_ne j4, hM j j1 j2]; exact a2 j j1 j2 j3 j4
  · intro k hk
    rw [e18, e19, e14, e15]
    unfold upd
    split
    · exact ⟨(a3 k hk).1, rfl⟩
    · exact a3 k hk
  · intro d hd
    rw [e12]
    unfold upd
    split
    · exact Or.inr rfl
    · exact a4 d hd
  · intro d hd
    rw [e12, e18, e19]
    by_cases ed : d = c
    · subst ed
      rw [pk_us]
      exact ⟨fun _ => Or.inr ⟨p, hp, Or.inr pk_us⟩, fun _ => by decide⟩
    · rw [pk_un ed, a5 d hd]
      constructor
      · rintro (q | ⟨k, hk, q⟩)
        · exact Or.inl q
        · by_cases ek : k = p
          · subst ek
            rcases q with q | q
            · exact Or.inr ⟨k, hk, Or.inl q⟩
            · rw [f2] at q; exact absurd q.symm (nI_neg hd)
          · exact Or.inr ⟨k, hk, by rw [pk_un ek]; exact q⟩
      · rintro (q | ⟨k, hk, q⟩)
        · exact Or.inl q
        · by_cases ek : k = p
          · subst ek
            rw [pk_us] at q
            rcases q with q | q
            · exact Or.inr ⟨k, hk, Or.inl q⟩
            · exact absurd (nI_inj hc hd q).symm ed
          · rw [pk_un ek] at q
            exact Or.inr ⟨k, hk, q⟩
  · intro k hk hkt
    have ek : k ≠ p := by intro q; rw [q] at hkt; omega
    rw [e18, e19, pk_un ek]
    exact a6 k hk (by omega)
  · intro k hk
    rw [e18, e19]
    unfold upd
    split
    · exact ⟨(a7 k hk).1, Or.inr ⟨c, hc, rfl, h6⟩⟩
    · exact a7 k hk
  · intro k l hk hl
    rw [e18, e19]
    obtain ⟨b1, b2, b3⟩ := a8 k l hk hl
    refine ⟨b1, ?_, ?_⟩
    · by_cases ek : k = p
      · subst ek
        by_cases el : l = k
        · subst el; exact fun _ _ => rfl
        · rw [pk_us, pk_un el]; exact fun q _ => absurd q.symm (hnew l hl).2
      · rw [pk_un ek]
        by_cases el : l = p
        · subst el
          rw [pk_us]
          exact fun q _ => absurd q (hnew k hk).2
        · rw [pk_un el]; exact b2
    · by_cases el : l = p
      · subst el
        rw [pk_us]
        exact fun q => absurd q (hnew k hk).1
      · rw [pk_un el]; exact b3
  · intro k hk
    rw [e18, e19]
    by_cases ek : k = p
    · subst ek
      rw [pk_us]
      exact fun _ => ⟨f1, fun q => f3 q.symm⟩
    · rw [pk_un ek]; exact a9 k hk
  · have e1 : (mup N' 15 p (nI c)) 0 19 = N 0 19 + 1 := by rw [← h019]; simp [mup, mset]
    have e2 : cw (mup M' 19 p (nI c)) = upd (cw M) p 2 := by
      funext k
      unfold cw
      rw [e18, e19]
      unfold upd
      by_cases ek : k = p
      · subst ek
        rw [if_pos rfl, if_pos rfl, if_neg f1, if_neg hne]
      · rw [if_neg ek, if_neg ek]
    have e3 : cw M p = 1 := by unfold cw; rw [if_neg f1, if_pos f2]
    rw [e1, e2, sm_upd (y := 1) (by rw [e3]; rfl) 53 hp, ← a10]
end
