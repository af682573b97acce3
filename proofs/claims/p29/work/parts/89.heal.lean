/-! ===== PURE: healing; what can be read stays so ===== -/
section
/-- how many of the first n -/
def ctb (f : Nat → Bool) : Nat → Nat
  | 0 => 0
  | n + 1 => ctb f n + (if f n = true then 1 else 0)
theorem ctb_le (f : Nat → Bool) (n : Nat) : ctb f n ≤ n := by
  induction n with
  | zero => exact Nat.le_refl _
  | succ n ih => unfold ctb; split <;> omega
theorem ctb_congr {f g : Nat → Bool} : ∀ n, (∀ i, i < n → f i = g i) → ctb f n = ctb g n := by
  intro n
  induction n with
  | zero => intro _; rfl
  | succ n ih => intro h; unfold ctb; rw [ih (fun i hi => h i (by omega)), h n (by omega)]
theorem ctb_mono {f g : Nat → Bool} : ∀ n, (∀ i, i < n → f i = true → g i = true) → ctb f n ≤ ctb g n := by
  intro n
  induction n with
  | zero => intro _; exact Nat.le_refl _
  | succ n ih =>
    intro h
    have h1 := ih (fun i hi => h i (by omega))
    have h2 := h n (by omega)
    unfold ctb
    by_cases e : f n = true
    · rw [if_pos e, if_pos (h2 e)]; omega
    · rw [if_neg e]; omega
theorem ctb_flip {f g : Nat → Bool} {i0 : Nat} (hf : f i0 = true) (hg : g i0 = false) : ∀ n, i0 < n → (∀ i, i < n → i ≠ i0 → g i = f i) → ctb g n + 1 = ctb f n := by
  intro n
  induction n with
  | zero => intro h; omega
  | succ n ih =>
    intro h hh
    unfold ctb
    by_cases e : i0 = n
    · subst e
      rw [if_pos hf, if_neg (by rw [hg]; decide), ctb_congr i0 (fun i hi => hh i (by omega) (by omega))]
    · have h1 := ih (by omega) (fun i hi => hh i (by omega))
      rw [hh n (by omega) (fun z => e z.symm)]
      omega
theorem ctb_0 {f : Nat → Bool} : ∀ n, (∀ i, i < n → f i = false) → ctb f n = 0 := by
  intro n
  induction n with
  | zero => intro _; rfl
  | succ n ih => intro h; unfold ctb; rw [ih (fun i hi => h i (by omega)), h n (by omega)]; rfl
/-- spoilt: used, and marked -/
def spf (M : Mem) (i : Nat) : Bool := ! decide (M 7 i = 0) && ! decide (M 6 (i % 120) = 0)
def spc (M : Mem) : Nat := ctb (spf M) 240
def fe (M : Mem) (q : Nat) : Bool := f_X4_canFetch (nI q) M
def gd (M : Mem) (x : Int32) (s : Nat) : Bool := f_X0_isGood x (nI s) M
theorem nI_53 {p : Nat} (hp : p < 53) : 0 ≤ (nI p).toInt ∧ (nI p).toInt < 53 := nI_r (N := 53) hp (by decide)
theorem u_fe {M : Mem} {q : Nat} (hq : q < 53) : fe M q = (gd M (M 11 q) 0 || gd M (M 11 q) 1 || gd M (M 12 q) 0 || gd M (M 12 q) 1) := by
  unfold fe gd
  rw [u_canFetch, u_pl0 (nI_53 hq), u_pl1 (nI_53 hq), nI_clamp (by omega)]
  rfl
theorem nI_s {s : Nat} (hs : s < 2) : nI s = 0 ∨ nI s = 1 := by
  rcases (by omega : s = 0 ∨ s = 1) with rfl | rfl
  · exact Or.inl rfl
  · exact Or.inr rfl
theorem gd_0 {M : Mem} {s : Nat} : gd M (-1) s = false := u_good0
theorem gd_c {M : Mem} {c s : Nat} (hs : s < 2) (hc : c < 120) (hu : M 6 c = 1) : gd M (nI c) s = (decide (M 8 (2 * (c / 40) + s) = 0) && decide (M 7 (120 * s + c) = 0)) := by
  unfold gd
  rw [u_good (nI_s hs) (nI_r (N := 120) hc (by decide)) (by rw [nI_clamp (by omega)]; exact hu), nI_clamp (by omega), nI_clamp (by omega)]
theorem cU_c {M : Mem} {x : Int32} (h : cU M x) : x = -1 ∨ ∃ c : Nat, c < 120 ∧ x = nI c ∧ M 6 c = 1 := by
  rcases h with h | ⟨h1, h2⟩
  · exact Or.inl h
  · exact Or.inr ⟨x.toNatClampNeg, y_cN h1, y_nI h1, h2⟩
theorem u_heal1 {M : Mem} {x : Int32} {s : Nat} (hs : s < 2) (hx : cU M x) :
    (f_X0_heal x (nI s) M = (0, M) ∧ ∀ c, c < 120 → x = nI c → M 8 (2 * (c / 40) + s) = 0 → M 7 (120 * s + c) = 0) ∨
    ∃ c, c < 120 ∧ x = nI c ∧ M 6 c = 1 ∧ M 8 (2 * (c / 40) + s) = 0 ∧ M 7 (120 * s + c) ≠ 0 ∧ f_X0_heal x (nI s) M = (1, mup M 7 (120 * s + c) 0) := by
  rcases cU_c hx with rfl | ⟨c, hc, rfl, hu⟩
  · left
    refine ⟨?_, fun c hc e => absurd e.symm (nI_neg hc)⟩
    unfold f_X0_heal f_X0_hasSpoilt
    rw [if_neg]
    rw [if_neg (by rw [q_isCellOnSide]; simp [z_neg1])]
    decide
  · have hcr := nI_r (N := 120) hc (by decide)
    have hcu : M 6 (nI c).toNatClampNeg = 1 := by rw [nI_clamp (by omega)]; exact hu
    have e1 := u_hasSpoilt (nI_s hs) hcr hcu
    have e2 := u_hasOnline (M := M) (nI_s hs) hcr
    have e3 := u_mark (M := M) (b := false) (nI_s hs) hcr
    rw [nI_clamp (by omega), nI_clamp (by omega)] at e1 e2 e3
    by_cases h7 : M 7 (120 * s + c) = 0
    · left
      refine ⟨?_, fun c' hc' e _ => by rw [← nI_inj hc hc' e]; exact h7⟩
      unfold f_X0_heal
      rw [e1, if_neg (by simp [h7])]
    · by_cases h8 : M 8 (2 * (c / 40) + s) = 0
      · right
        refine ⟨c, hc, rfl, hu, h8, h7, ?_⟩
        unfold f_X0_heal
        rw [e1, if_pos (by simp [h7]), e2, if_pos (by simp [h8]), e3]
        rfl
      · left
        refine ⟨?_, fun c' hc' e h => absurd (by rw [nI_inj hc hc' e]; exact h) h8⟩
        unfold f_X0_heal
        rw [e1, if_pos (by simp [h7]), e2, if_neg (by simp [h8])]
/-- cells of the pointer p were healed, no other -/
def hz (p : Nat) (M M' : Mem) : Prop := sK M M' ∧ ∀ i, i < 240 → M' 7 i = M 7 i ∨ (M' 7 i = 0 ∧ (M 11 p = nI (i % 120) ∨ M 12 p = nI (i % 120)))
def hv (v : Int32) (M M' : Mem) : Prop := v + nI (spc M') = nI (spc M)
theorem hz.refl (p : Nat) (M : Mem) : hz p M M := ⟨sK.refl M, fun _ _ => Or.inl rfl⟩
theorem hv.refl (M : Mem) : hv 0 M M := by unfold hv; rw [Int32.zero_add]
theorem hz.trans {p : Nat} {A B C : Mem} (h : hz p A B) (k : hz p B C) : hz p A C := by
  refine ⟨h.1.trans k.1, fun i hi => ?_⟩
  rcases k.2 i hi with e | ⟨e, e2⟩
  · rcases h.2 i hi with f | ⟨f, f2⟩
    · exact Or.inl (e.trans f)
    · exact Or.inr ⟨e.trans f, f2⟩
  · rw [h.1 11 (by decide), h.1 12 (by decide)] at e2
    exact Or.inr ⟨e, e2⟩
theorem hv.trans {v w : Int32} {A B C : Mem} (h : hv v A B) (k : hv w B C) : hv (v + w) A C := by
  unfold hv at *
  rw [Int32.add_assoc, k, h]
theorem heal_hz {p : Nat} {M : Mem} {x : Int32} {s : Nat} (hs : s < 2) (hx : cU M x) (hp : x = M 11 p ∨ x = M 12 p) :
    hz p M (f_X0_heal x (nI s) M).2 ∧ hv (f_X0_heal x (nI s) M).1 M (f_X0_heal x (nI s) M).2 ∧ ∀ c, c < 120 → x = nI c → M 8 (2 * (c / 40) + s) = 0 → (f_X0_heal x (nI s) M).2 7 (120 * s + c) = 0 := by
  rcases u_heal1 hs hx with ⟨e, h⟩ | ⟨c, hc, rfl, hu, h8, h7, e⟩
  · rw [e]; exact ⟨hz.refl p M, hv.refl M, h⟩
  · rw [e]
    show hz p M (mup M 7 (120 * s + c) 0) ∧ hv 1 M (mup M 7 (120 * s + c) 0) ∧ ∀ c', c' < 120 → nI c = nI c' → M 8 (2 * (c' / 40) + s) = 0 → mup M 7 (120 * s + c) 0 7 (120 * s + c') = 0
    have h6 : mup M 7 (120 * s + c) 0 6 = M 6 := by unfold mup; exact mset_ne (by decide)
    have hsame : ∀ i, i ≠ 120 * s + c → mup M 7 (120 * s + c) 0 7 i = M 7 i := fun i hi => by unfold mup; rw [mset_eq, pk_un hi]
    have hat : mup M 7 (120 * s + c) 0 7 (120 * s + c) = 0 := by unfold mup; rw [mset_eq, pk_us]
    refine ⟨⟨fun j hj => by unfold mup; rw [mset_ne hj], fun i hi => ?_⟩, ?_, fun c' hc' e' _ => by rw [← nI_inj hc hc' e']; exact hat⟩
    · by_cases ei : i = 120 * s + c
      · subst ei
        refine Or.inr ⟨hat, ?_⟩
        rw [show (120 * s + c) % 120 = c by omega]
        exact hp.imp Eq.symm Eq.symm
      · exact Or.inl (hsame i ei)
    · show 1 + nI (spc (mup M 7 (120 * s + c) 0)) = nI (spc M)
      have hf := ctb_flip (f := spf M) (g := spf (mup M 7 (120 * s + c) 0)) (i0 := 120 * s + c) (by
        unfold spf
        rw [show (120 * s + c) % 120 = c by omega, hu]
        simp [h7]) (by unfold spf; rw [hat]; rfl) 240 (by omega) (fun i _ hi => by unfold spf; rw [hsame i hi, h6])
      have hf2 : spc (mup M 7 (120 * s + c) 0) + 1 = spc M := hf
      rw [← hf2, ← nI_1, Int32.add_comm]
/-- all cells of p that are on sides online are right -/
def cl (p : Nat) (M : Mem) : Prop := ∀ s c, s < 2 → c < 120 → (M 11 p = nI c ∨ M 12 p = nI c) → M 8 (2 * (c / 40) + s) = 0 → M 7 (120 * s + c) = 0
theorem hec_hz {n : Int} {p : Nat} {M : Mem} (hp : p < 53) (h : zI n M) : hz p M (f_X4_healEveryCell (nI p) M).2 ∧ hv (f_X4_healEveryCell (nI p) M).1 M (f_X4_healEveryCell (nI p) M).2 ∧ cl p (f_X4_healEveryCell (nI p) M).2 := by
  have kc := h.1 p hp
  rw [u_hec (nI p) M (nI_53 hp), nI_clamp (by omega)]
  simp only [zlet]
  have z0 : (0 : Int32) = nI 0 := rfl
  have z1 : (1 : Int32) = nI 1 := rfl
  obtain ⟨a1, b1, c1⟩ := heal_hz (p := p) (s := 0) (by decide) kc.1 (Or.inl rfl)
  rw [← z0] at a1 b1 c1
  revert a1 b1 c1
  generalize f_X0_heal (M 11 p) 0 M = q1
  intro a1 b1 c1
  obtain ⟨a2, b2, c2⟩ := heal_hz (p := p) (M := q1.2) (s := 1) (by decide) (kc.1.kept a1.1) (Or.inl (by rw [a1.1 11 (by decide)]))
  rw [← z1] at a2 b2 c2
  revert a2 b2 c2
  generalize f_X0_heal (M 11 p) 1 q1.2 = q2
  intro a2 b2 c2
  have t2 := a1.1.trans a2.1
  have e12 : q2.2 12 p = M 12 p := by rw [t2 12 (by decide)]
  rw [e12]
  obtain ⟨a3, b3, c3⟩ := heal_hz (p := p) (M := q2.2) (s := 0) (by decide) (kc.2.kept t2) (Or.inr e12.symm)
  rw [← z0] at a3 b3 c3
  revert a3 b3 c3
  generalize f_X0_heal (M 12 p) 0 q2.2 = q3
  intro a3 b3 c3
  have t3 := t2.trans a3.1
  obtain ⟨a4, b4, c4⟩ := heal_hz (p := p) (M := q3.2) (s := 1) (by decide) (kc.2.kept t3) (Or.inr (by rw [t3 12 (by decide)]))
  rw [← z1] at a4 b4 c4
  revert a4 b4 c4
  generalize f_X0_heal (M 12 p) 1 q3.2 = q4
  intro a4 b4 c4
  have t4 := t3.trans a4.1
  refine ⟨((a1.trans a2).trans a3).trans a4, ((b1.trans b2).trans b3).trans b4, ?_⟩
  intro s c hs hc hpc h8
  rw [t4 11 (by decide), t4 12 (by decide)] at hpc
  rw [t4 8 (by decide)] at h8
  have hi : 120 * s + c < 240 := by omega
  have k4 : ∀ A B : Mem, hz p A B → A 7 (120 * s + c) = 0 → B 7 (120 * s + c) = 0 := fun A B hAB e => (hAB.2 _ hi).elim (fun q => q.trans e) (fun q => q.1)
  rcases (by omega : s = 0 ∨ s = 1) with rfl | rfl
  · rcases hpc with e | e
    · exact k4 _ _ a4 (k4 _ _ a3 (k4 _ _ a2 (c1 c hc e h8)))
    · exact k4 _ _ a4 (c3 c hc e (by rw [t2 8 (by decide)]; exact h8))
  · rcases hpc with e | e
    · exact k4 _ _ a4 (k4 _ _ a3 (c2 c hc e (by rw [a1.1 8 (by decide)]; exact h8)))
    · exact c4 c hc e (by rw [t3 8 (by decide)]; exact h8)
/-- nothing to heal -/
theorem hec_cl {n : Int} {p : Nat} {M : Mem} (hp : p < 53) (h : zI n M) (hc : cl p M) : f_X4_healEveryCell (nI p) M = (0, M) := by
  have kc := h.1 p hp
  have z0 : (0 : Int32) = nI 0 := rfl
  have z1 : (1 : Int32) = nI 1 := rfl
  have k : ∀ (x : Int32) (s : Nat), s < 2 → cU M x → (x = M 11 p ∨ x = M 12 p) → f_X0_heal x (nI s) M = (0, M) := by
    intro x s hs hx hpx
    rcases u_heal1 hs hx with ⟨e, _⟩ | ⟨c, hc', rfl, hu, h8, h7, e⟩
    · exact e
    · exact absurd (hc s c hs hc' (hpx.imp Eq.symm Eq.symm) h8) h7
  have e1 := k (M 11 p) 0 (by decide) kc.1 (Or.inl rfl)
  have e2 := k (M 11 p) 1 (by decide) kc.1 (Or.inl rfl)
  have e3 := k (M 12 p) 0 (by decide) kc.2 (Or.inr rfl)
  have e4 := k (M 12 p) 1 (by decide) kc.2 (Or.inr rfl)
  rw [← z0] at e1 e3
  rw [← z1] at e2 e4
  rw [u_hec (nI p) M (nI_53 hp), nI_clamp (by omega)]
  simp only [zlet, e1, e2, e3, e4]
  rfl
theorem hug_hz {n : Int} {p : Nat} {M : Mem} (hp : p < 53) (h : zI n M) : hz p M (f_X4_healUpToGoodCell (nI p) M).2 ∧ hv (f_X4_healUpToGoodCell (nI p) M).1 M (f_X4_healUpToGoodCell (nI p) M).2 := by
  have kc := h.1 p hp
  have z0 : (0 : Int32) = nI 0 := rfl
  have z1 : (1 : Int32) = nI 1 := rfl
  have half : ∀ (x1 x3 x v : Int32) (A : Mem), cU A x → (x = A 11 p ∨ x = A 12 p) → ∀ (B0 : Mem) (w : Int32), hz p B0 A → hv w B0 A → w = v →
      (∃ v' A', l_X4_healUpToGoodCell_23 x1 x3 x 3 v 0 A = .inl (v', A') ∧ hz p B0 A' ∧ hv v' B0 A') ∨ ∃ v' A', l_X4_healUpToGoodCell_23 x1 x3 x 3 v 0 A = .inr (v', 2, A') ∧ hz p B0 A' ∧ hv v' B0 A' := by
    intro x1 x3 x v A hx hpx B0 w h1 h2 hw
    subst hw
    rw [u_hug]
    obtain ⟨a1, b1, -⟩ := heal_hz (p := p) (s := 0) (by decide) hx hpx
    rw [← z0] at a1 b1
    revert a1 b1
    generalize f_X0_heal x 0 A = q1
    intro a1 b1
    obtain ⟨a2, b2, -⟩ := heal_hz (p := p) (M := q1.2) (s := 1) (by decide) (hx.kept a1.1) (by rw [a1.1 11 (by decide), a1.1 12 (by decide)]; exact hpx)
    rw [← z1] at a2 b2
    revert a2 b2
    generalize f_X0_heal x 1 q1.2 = q2
    intro a2 b2
    by_cases g0 : f_X0_isGood x 0 A = true
    · rw [if_pos g0]; exact Or.inl ⟨_, _, rfl, h1, h2⟩
    · rw [if_neg g0]
      by_cases g1 : f_X0_isGood x 1 q1.2 = true
      · rw [if_pos g1]; exact Or.inl ⟨_, _, rfl, h1.trans a1, h2.trans b1⟩
      · rw [if_neg g1]; exact Or.inr ⟨_, _, rfl, (h1.trans a1).trans a2, (h2.trans b1).trans b2⟩
  rw [u_hugs, u_pl0 (nI_53 hp), nI_clamp (by omega)]
  rcases half (nI p) 0 (M 11 p) 0 M kc.1 (Or.inl rfl) M 0 (hz.refl p M) (hv.refl M) rfl with ⟨v', A', e, r1, r2⟩ | ⟨v', A', e, r1, r2⟩
  · rw [e]; exact ⟨r1, r2⟩
  · rw [e]
    simp only [Sum.elim_inr]
    have e12 : A' 12 p = M 12 p := by rw [r1.1 12 (by decide)]
    rw [u_pl1 (nI_53 hp), nI_clamp (by omega), e12]
    rcases half (nI p) 1 (M 12 p) v' A' (kc.2.kept r1.1) (Or.inr e12.symm) M v' r1 r2 rfl with ⟨w', B', e', s1, s2⟩ | ⟨w', B', e', s1, s2⟩
    · rw [e']; exact ⟨s1, s2⟩
    · rw [e']; exact ⟨s1, s2⟩
/-- what can be read -/
theorem gd_mono {M M' : Mem} {x : Int32} {s : Nat} (hs : s < 2) (hx : cU M x) (hk : sK M M') (h7 : ∀ i, i < 240 → M' 7 i = M 7 i ∨ M' 7 i = 0) (h : gd M x s = true) : gd M' x s = true := by
  rcases cU_c hx with rfl | ⟨c, hc, rfl, hu⟩
  · rw [gd_0] at h; cases h
  · rw [gd_c hs hc hu] at h
    rw [gd_c hs hc (by rw [hk 6 (by decide)]; exact hu), hk 8 (by decide)]
    simp only [Bool.and_eq_true, decide_eq_true_iff] at h ⊢
    exact ⟨h.1, (h7 _ (by omega)).elim (fun e => e.trans h.2) id⟩
theorem gd_same {M M' : Mem} {x : Int32} {s : Nat} (hs : s < 2) (hx : cU M x) (hk : sK M M') (h7 : ∀ c, c < 120 → x = nI c → M' 7 (120 * s + c) = M 7 (120 * s + c)) : gd M' x s = gd M x s := by
  rcases cU_c hx with rfl | ⟨c, hc, rfl, hu⟩
  · rw [gd_0, gd_0]
  · rw [gd_c hs hc hu, gd_c hs hc (by rw [hk 6 (by decide)]; exact hu), hk 8 (by decide), h7 c hc rfl]
theorem fe_hz {n : Int} {p : Nat} {M M' : Mem} (hp : p < 53) (h : zI n M) (hh : hz p M M') (hr : fe M p = true ∨ M 11 p = -1) : ∀ q, q < 53 → fe M' q = fe M q := by
  intro q hq
  have kq := h.1 q hq
  have e11 : M' 11 = M 11 := hh.1 11 (by decide)
  have e12 : M' 12 = M 12 := hh.1 12 (by decide)
  by_cases e : q = p ∧ fe M p = true
  · obtain ⟨rfl, hr⟩ := e
    rw [hr]
    rw [u_fe hq] at hr ⊢
    rw [e11, e12]
    have h7 : ∀ i, i < 240 → M' 7 i = M 7 i ∨ M' 7 i = 0 := fun i hi => (hh.2 i hi).imp id And.left
    simp only [Bool.or_eq_true] at hr ⊢
    rcases hr with ((hr | hr) | hr) | hr
    · exact Or.inl (Or.inl (Or.inl (gd_mono (by decide) kq.1 hh.1 h7 hr)))
    · exact Or.inl (Or.inl (Or.inr (gd_mono (by decide) kq.1 hh.1 h7 hr)))
    · exact Or.inl (Or.inr (gd_mono (by decide) kq.2 hh.1 h7 hr))
    · exact Or.inr (gd_mono (by decide) kq.2 hh.1 h7 hr)
  · have hno : ∀ c, c < 120 → (M 11 q = nI c ∨ M 12 q = nI c) → ¬ (M 11 p = nI c ∨ M 12 p = nI c) := by
      intro c hc h1 h2
      by_cases eq : q = p
      · rcases hr with hr | hr
        · exact e ⟨eq, hr⟩
        · subst eq
          have : M 12 q = -1 := by
            by_cases z : M 12 q = -1
            · exact z
            · exact absurd hr (h.2.2.2.1 q hq z).1
          rcases h1 with h1 | h1
          · exact nI_neg hc (h1.symm.trans hr)
          · exact nI_neg hc (h1.symm.trans this)
      · obtain ⟨d1, d2, d3⟩ := h.2.2.1 q p hq hp
        have d4 := (h.2.2.1 p q hp hq).2.2
        rcases h1 with h1 | h1 <;> rcases h2 with h2 | h2
        · exact eq (d1 (h1.trans h2.symm) (by rw [h1]; exact nI_neg hc))
        · exact nI_neg hc (h1.symm.trans (d3 (h1.trans h2.symm)))
        · exact nI_neg hc (h2.symm.trans (d4 (h2.trans h1.symm)))
        · exact eq (d2 (h1.trans h2.symm) (by rw [h1]; exact nI_neg hc))
    have h7 : ∀ s c, s < 2 → c < 120 → (M 11 q = nI c ∨ M 12 q = nI c) → M' 7 (120 * s + c) = M 7 (120 * s + c) := by
      intro s c hs hc hqc
      rcases hh.2 (120 * s + c) (by omega) with z | ⟨_, z⟩
      · exact z
      · rw [show (120 * s + c) % 120 = c by omega] at z
        exact absurd z (hno c hc hqc)
    rw [u_fe hq, u_fe hq, e11, e12]
    rw [gd_same (by decide) kq.1 hh.1 (fun c hc z => h7 0 c (by decide) hc (Or.inl z)), gd_same (by decide) kq.1 hh.1 (fun c hc z => h7 1 c (by decide) hc (Or.inl z)), gd_same (by decide) kq.2 hh.1 (fun c hc z => h7 0 c (by decide) hc (Or.inr z)), gd_same (by decide) kq.2 hh.1 (fun c hc z => h7 1 c (by decide) hc (Or.inr z))]
theorem zI_sK {n : Int} {M M' : Mem} (h : zI n M) (k : sK M M') : zI n M' := by
  unfold zI cU at *
  rw [k 3 (by decide), k 5 (by decide), k 6 (by decide), k 8 (by decide), k 9 (by decide), k 10 (by decide), k 11 (by decide), k 12 (by decide), k 14 (by decide), k 15 (by decide)]
  exact h
/-- healed here and there: all that is needed of many steps -/
def SC (v : Int32) (M M' : Mem) : Prop := sK M M' ∧ (∀ q, q < 53 → fe M' q = fe M q) ∧ (∀ i, i < 240 → M' 7 i = M 7 i ∨ M' 7 i = 0) ∧ hv v M M'
theorem SC.refl (M : Mem) : SC 0 M M := ⟨sK.refl M, fun _ _ => rfl, fun _ _ => Or.inl rfl, hv.refl M⟩
theorem SC.trans {v w : Int32} {A B C : Mem} (h : SC v A B) (k : SC w B C) : SC (v + w) A C := by
  refine ⟨h.1.trans k.1, fun q hq => (k.2.1 q hq).trans (h.2.1 q hq), fun i hi => ?_, h.2.2.2.trans k.2.2.2⟩
  rcases k.2.2.1 i hi with e | e
  · exact (h.2.2.1 i hi).imp (fun z => e.trans z) (fun z => e.trans z)
  · exact Or.inr e
theorem SC.of {n : Int} {p : Nat} {v : Int32} {M M' : Mem} (hp : p < 53) (h : zI n M) (hh : hz p M M') (k : hv v M M') (hr : fe M p = true ∨ M 11 p = -1) : SC v M M' := ⟨hh.1, fe_hz hp h hh hr, fun i hi => (hh.2 i hi).imp id And.left, k⟩
theorem cl_SC {p : Nat} {v : Int32} {M M' : Mem} (h : SC v M M') (k : cl p M) : cl p M' := by
  intro s c hs hc hpc h8
  rw [h.1 11 (by decide), h.1 12 (by decide)] at hpc
  rw [h.1 8 (by decide)] at h8
  have e := k s c hs hc hpc h8
  exact (h.2.2.1 _ (by omega)).elim (fun z => z.trans e) id
theorem spc_le {v : Int32} {M M' : Mem} (h : SC v M M') : spc M' ≤ spc M := by
  refine ctb_mono 240 (fun i hi e => ?_)
  unfold spf at *
  rw [h.1 6 (by decide)] at e
  simp only [Bool.and_eq_true, Bool.not_eq_true', decide_eq_false_iff_not] at e ⊢
  exact ⟨fun z => e.1 ((h.2.2.1 i hi).elim (fun y => y.trans z) id), e.2⟩
theorem spc_lt (M : Mem) : spc M ≤ 240 := ctb_le _ _
end
