/-! ===== PURE: a good pool is what holds asks ===== -/
section
theorem nd_gt {a : Int32} {M : Mem} : ∀ (j b : Nat), b + j = 12 → ndF a M (nI b) = .inr "java/util/NoSuchElementException" ∨ ∃ b2, b ≤ b2 ∧ b2 < 12 ∧ ndF a M (nI b) = .inl (nI b2) := by
  intro j
  induction j with
  | zero =>
    intro b hb
    exact Or.inl (ndF_12 a _ M (by rw [nI_toInt (by omega)]; omega))
  | succ j ih =>
    intro b hb
    rw [ndF_s a _ M (by rw [nI_toInt (by omega)]; omega) (by rw [nI_toInt (by omega)]; omega), nI_1]
    split
    · rcases ih (b + 1) (by omega) with e | ⟨b2, h1, h2, e⟩
      · exact Or.inl e
      · exact Or.inr ⟨b2, by omega, h2, e⟩
    · exact Or.inr ⟨b, by omega, by omega, rfl⟩
theorem nh_gt {a : Int32} {M : Mem} : ∀ (j b : Nat), b + j = 12 → ∃ b2, b ≤ b2 ∧ b2 ≤ 12 ∧ nhF a M (nI b) = .inl (nI b2) := by
  intro j
  induction j with
  | zero =>
    intro b hb
    exact ⟨12, by omega, by omega, nhF_12 a _ M (by rw [nI_toInt (by omega)]; omega)⟩
  | succ j ih =>
    intro b hb
    rw [nhF_s a _ M (by rw [nI_toInt (by omega)]; omega) (by rw [nI_toInt (by omega)]; omega), nI_1]
    split
    · obtain ⟨b2, h1, h2, e⟩ := ih (b + 1) (by omega)
      exact ⟨b2, by omega, h2, e⟩
    · exact ⟨b, by omega, by omega, rfl⟩
theorem nd_c {f b : Nat} {P : Mem} (hf : f < 4) (hb : b < 12) : (vN P (12 * f + b) ≠ 0 → eI (f_X4_nextData (nI f) (nI b) P) = nI b ∧ ¬ eI (f_X4_nextHole (nI f) (nI b) P) ≤ nI b) ∧ (vN P (12 * f + b) = 0 → eI (f_X4_nextHole (nI f) (nI b) P) = nI b ∧ eI (f_X4_nextData (nI f) (nI b) P) ≠ nI b) := by
  have e1 : f_X4_nextData (nI f) (nI b) P = ndF (nI f) P (nI b) := by unfold f_X4_nextData; rw [if_pos (q_bf hf hb)]; rfl
  have e2 : f_X4_nextHole (nI f) (nI b) P = nhF (nI f) P (nI b) := by unfold f_X4_nextHole; rw [if_pos (q_bf hf hb)]; rfl
  have hv := u_now (M := P) ⟨nI_r (N := 4) hf (by decide), nI_r (N := 12) hb (by decide)⟩
  rw [nI_clamp (by omega), nI_clamp (by omega)] at hv
  have h0 : 0 ≤ (nI b).toInt := (nI_r (N := 12) hb (by decide)).1
  have h1 : (nI b).toInt < 12 := (nI_r (N := 12) hb (by decide)).2
  rw [e1, e2, ndF_s _ _ _ h0 h1, nhF_s _ _ _ h0 h1, hv, nI_1]
  constructor
  · intro z
    rw [if_neg z, if_pos z]
    refine ⟨rfl, ?_⟩
    obtain ⟨b2, g1, g2, e⟩ := nh_gt (a := nI f) (M := P) (12 - (b + 1)) (b + 1) (by omega)
    rw [e]
    exact nI_ge (a := b) (b := b2) (by omega) (by omega)
  · intro z
    rw [if_pos z, if_neg (fun q => q z)]
    refine ⟨rfl, ?_⟩
    rcases nd_gt (a := nI f) (M := P) (12 - (b + 1)) (b + 1) (by omega) with e | ⟨b2, g1, g2, e⟩
    · rw [e]
      show eK "java/util/NoSuchElementException" ≠ nI b
      rw [eK_NSE]
      intro q
      have := nI_toInt (n := b) (by omega)
      rw [← q] at this
      simp only [Int32.reduceToInt] at this
      omega
    · rw [e]
      show nI b2 ≠ nI b
      intro q
      have := (nI_eq (by omega) (by omega)).mp q
      omega
theorem hs_0 (P : Mem) (f : Nat) : ∀ b, hs P f b = 0 ↔ ∀ i, i < b → P 11 (12 * f + i) = -1 := by
  intro b
  induction b with
  | zero => exact ⟨fun _ i hi => by omega, fun _ => rfl⟩
  | succ b ih =>
    have e : hs P f (b + 1) = if hs P f b = 0 ∧ P 11 (12 * f + b) = -1 then 0 else 1 := rfl
    rw [e]
    by_cases h : hs P f b = 0 ∧ P 11 (12 * f + b) = -1
    · rw [if_pos h]
      refine ⟨fun _ i hi => ?_, fun _ => rfl⟩
      by_cases ei : i = b
      · rw [ei]; exact h.2
      · exact ih.mp h.1 i (by omega)
    · rw [if_neg h]
      refine ⟨fun z => by omega, fun z => absurd ⟨ih.mpr (fun i hi => z i (by omega)), z b (by omega)⟩ h⟩
theorem an_0 (P : Mem) : ∀ f, an P f = 0 ↔ ∀ i, i < f → hs P i 12 = 0 := by
  intro f
  induction f with
  | zero => exact ⟨fun _ i hi => by omega, fun _ => rfl⟩
  | succ f ih =>
    have e : an P (f + 1) = if an P f = 0 ∧ hs P f 12 = 0 then 0 else 1 := rfl
    rw [e]
    by_cases h : an P f = 0 ∧ hs P f 12 = 0
    · rw [if_pos h]
      refine ⟨fun _ i hi => ?_, fun _ => rfl⟩
      by_cases ei : i = f
      · rw [ei]; exact h.2
      · exact ih.mp h.1 i (by omega)
    · rw [if_neg h]
      refine ⟨fun z => by omega, fun z => absurd ⟨ih.mpr (fun i hi => z i (by omega)), z f (by omega)⟩ h⟩
theorem gd_hs {n : Int} {P : Mem} (h : zI n P) (j : zJ P) {f : Nat} (hf : f < 4) : hs P f 12 ≠ 0 ↔ P 11 (48 + f) ≠ -1 := by
  obtain ⟨i1, i2, i3, i4, i5, i6, ⟨i7, i8, i9⟩, -⟩ := h
  constructor
  · intro z ne
    refine z ((hs_0 P f 12).mpr (fun i hi => ?_))
    by_cases e : P 11 (12 * f + i) = -1
    · exact e
    · exact absurd ne (i5 f i hf hi e)
  · intro ne z
    obtain ⟨b, hb, q⟩ := i9 f hf ne
    exact j.2.1 _ (by omega) q ((hs_0 P f 12).mp z b hb)
theorem gd_an {n : Int} {P : Mem} (h : zI n P) (j : zJ P) : an P 4 ≠ 0 ↔ P 11 52 ≠ -1 := by
  constructor
  · intro z ne
    refine z ((an_0 P 4).mpr (fun f hf => ?_))
    by_cases e : hs P f 12 = 0
    · exact e
    · exact absurd ne (h.2.2.2.2.2.1 f hf ((gd_hs h j hf).mp e))
  · intro ne z
    obtain ⟨_, f, hf, e⟩ := j.2.2.2.1 ne
    exact (gd_hs h j hf).mpr e ((an_0 P 4).mp z f hf)
-- notes
theorem po_inj : ∀ s, s < 53 → ∀ t, t < 53 → po s = po t → s = t := by decide +kernel
theorem po_lt : ∀ t, t < 53 → po t < 53 := by decide +kernel
theorem ow_at {x : Int32} {c : Nat → Int32} {d : Nat} (hx : x = -1 ∨ ∃ e : Nat, e < 120 ∧ x = nI e) (hd : d < 120) (h : ow x c (64 * (d / 40) + d % 40) ≠ 0) : x = nI d ∨ c (64 * (d / 40) + d % 40) ≠ 0 := by
  rcases hx with rfl | ⟨e, he, rfl⟩
  · unfold ow at h; rw [if_pos rfl] at h; exact Or.inr h
  · unfold ow at h
    rw [if_neg (nI_neg he), nI_clamp (by omega)] at h
    unfold nt at h
    by_cases q : 64 * (d / 40) + d % 40 = 64 * (e / 40) + e % 40
    · have : d = e := by omega
      exact Or.inl (by rw [this])
    · rw [pk_un q] at h; exact Or.inr h
theorem pl_d {P : Mem} {x : Int32} (h : cU P x) : x = -1 ∨ ∃ e : Nat, e < 120 ∧ x = nI e := by
  rcases cU_c h with h | ⟨c, hc, e, _⟩
  · exact Or.inl h
  · exact Or.inr ⟨c, hc, e⟩
theorem cs_at {n : Int} {P : Mem} (h : zI n P) (c : Nat → Int32) : ∀ t, t ≤ 53 → ∀ d, d < 120 → cs P c t (64 * (d / 40) + d % 40) ≠ 0 → ∃ s, s < t ∧ (P 11 (po s) = nI d ∨ P 12 (po s) = nI d) := by
  intro t
  induction t with
  | zero =>
    intro _ d hd z
    refine absurd ?_ z
    show zl c 3 (64 * (d / 40) + d % 40) = 0
    unfold zl
    rw [if_pos (by omega)]
  | succ t ih =>
    intro ht d hd z
    have k := h.1 (po t) (po_lt t (by omega))
    have e : cs P c (t + 1) = ow (P 12 (po t)) (ow (P 11 (po t)) (cs P c t)) := rfl
    rw [e] at z
    rcases ow_at (pl_d k.2) hd z with q | q
    · exact ⟨t, by omega, Or.inr q⟩
    · rcases ow_at (pl_d k.1) hd q with q | q
      · exact ⟨t, by omega, Or.inl q⟩
      · obtain ⟨s, hs, r⟩ := ih (by omega) d hd q
        exact ⟨s, by omega, r⟩
theorem cs_ok {n : Int} {P : Mem} (h : zI n P) (c : Nat → Int32) {t : Nat} (ht : t < 53) : pOK P (cs P c t) (P 11 (po t)) ∧ pOK P (ow (P 11 (po t)) (cs P c t)) (P 12 (po t)) := by
  have hp := po_lt t ht
  have k := h.1 (po t) hp
  have no : ∀ d, d < 120 → (P 11 (po t) = nI d ∨ P 12 (po t) = nI d) → cs P c t (64 * (d / 40) + d % 40) = 0 := by
    intro d hd q
    by_cases z : cs P c t (64 * (d / 40) + d % 40) = 0
    · exact z
    · obtain ⟨s, hs, r⟩ := cs_at h c t (by omega) d hd z
      have hps := po_lt s (by omega)
      obtain ⟨d1, d2, d3⟩ := h.2.2.1 (po s) (po t) hps hp
      have d4 := (h.2.2.1 (po t) (po s) hp hps).2.2
      have : po s = po t := by
        rcases r with r | r <;> rcases q with q | q
        · exact d1 (r.trans q.symm) (by rw [r]; exact nI_neg hd)
        · exact absurd (d3 (r.trans q.symm)) (by rw [r]; exact nI_neg hd)
        · exact absurd (d4 (q.trans r.symm)) (by rw [q]; exact nI_neg hd)
        · exact d2 (r.trans q.symm) (by rw [r]; exact nI_neg hd)
      have := po_inj s (by omega) t ht this
      omega
  constructor
  · rcases cU_c k.1 with e | ⟨d, hd, e, hu⟩
    · exact Or.inl e
    · exact Or.inr ⟨d, hd, e, by rw [hu]; decide, no d hd (Or.inl e)⟩
  · rcases cU_c k.2 with e | ⟨d, hd, e, hu⟩
    · exact Or.inl e
    · refine Or.inr ⟨d, hd, e, by rw [hu]; decide, ?_⟩
      by_cases z : ow (P 11 (po t)) (cs P c t) (64 * (d / 40) + d % 40) = 0
      · exact z
      · rcases ow_at (pl_d k.1) hd z with q | q
        · exact absurd ((h.2.2.1 (po t) (po t) hp hp).2.2 (q.trans e.symm)) (by rw [q]; exact nI_neg hd)
        · exact absurd (no d hd (Or.inr e)) q
-- cells add up
def sN (g : Nat → Nat) : Nat → Nat
  | 0 => 0
  | n + 1 => sN g n + g n
def us (pl : Nat → Int32) : Nat → Nat → Bool
  | 0, _ => false
  | m + 1, c => us pl m c || decide (pl m = nI c)
theorem us_iff (pl : Nat → Int32) (c : Nat) : ∀ m, us pl m c = true ↔ ∃ j, j < m ∧ pl j = nI c := by
  intro m
  induction m with
  | zero => exact ⟨(fun z => by cases z), (fun ⟨j, hj, _⟩ => by omega)⟩
  | succ m ih =>
    show (us pl m c || decide (pl m = nI c)) = true ↔ _
    rw [Bool.or_eq_true, ih, decide_eq_true_iff]
    constructor
    · rintro (⟨j, hj, e⟩ | e)
      · exact ⟨j, by omega, e⟩
      · exact ⟨m, by omega, e⟩
    · rintro ⟨j, hj, e⟩
      by_cases q : j = m
      · rw [q] at e; exact Or.inr e
      · exact Or.inl ⟨j, by omega, e⟩
theorem us_ct {pl : Nat → Int32} {N : Nat} (h1 : ∀ j, j < N → pl j = -1 ∨ ∃ c : Nat, c < 120 ∧ pl j = nI c) (h2 : ∀ i j, i < N → j < N → pl i = pl j → pl i ≠ -1 → i = j) : ∀ m, m ≤ N → ctb (us pl m) 120 = ctb (fun j => ! decide (pl j = -1)) m := by
  intro m
  induction m with
  | zero => intro _; exact ctb_0 120 (fun _ _ => rfl)
  | succ m ih =>
    intro hm
    have i := ih (by omega)
    show _ = ctb (fun j => ! decide (pl j = -1)) m + (if (! decide (pl m = -1)) = true then 1 else 0)
    rcases h1 m (by omega) with e | ⟨c, hc, e⟩
    · rw [if_neg (by simp [e]), Nat.add_zero, ← i]
      have hp : ∀ c, c < 120 → us pl (m + 1) c = us pl m c := by
        intro c hc
        show (us pl m c || decide (pl m = nI c)) = us pl m c
        rw [decide_eq_false (by rw [e]; exact fun z => nI_neg hc z.symm), Bool.or_false]
      have hq := ctb_congr (f := us pl (m + 1)) (g := us pl m) 120 hp
      omega
    · rw [if_pos (by simp [e, nI_neg hc]), ← i]
      refine (ctb_flip (f := us pl (m + 1)) (g := us pl m) (i0 := c) ?_ ?_ 120 hc (fun k hk hkc => ?_)).symm
      · show (us pl m c || decide (pl m = nI c)) = true
        rw [decide_eq_true e, Bool.or_true]
      · cases z : us pl m c with
        | false => rfl
        | true =>
          obtain ⟨j, hj, ej⟩ := (us_iff pl c m).mp z
          have := h2 j m (by omega) (by omega) (ej.trans e.symm) (by rw [ej]; exact nI_neg hc)
          omega
      · show us pl m k = (us pl m k || decide (pl m = nI k))
        rw [decide_eq_false (by rw [e]; exact fun z => hkc (nI_inj hc hk z).symm), Bool.or_false]
theorem sN_congr {g k : Nat → Nat} : ∀ n, (∀ i, i < n → g i = k i) → sN g n = sN k n := by
  intro n
  induction n with
  | zero => intro _; rfl
  | succ n ih => intro h; unfold sN; rw [ih (fun i hi => h i (by omega)), h n (by omega)]
theorem ct2 (f g : Nat → Bool) : ∀ n, ctb f n + ctb g n = sN (fun i => (if f i = true then 1 else 0) + (if g i = true then 1 else 0)) n := by
  intro n
  induction n with
  | zero => rfl
  | succ n ih => unfold ctb sN; omega
theorem ct_app (f : Nat → Bool) (a : Nat) : ∀ n, ctb f (a + n) = ctb f a + ctb (fun i => f (a + i)) n := by
  intro n
  induction n with
  | zero => rfl
  | succ n ih =>
    have e1 : ctb f (a + (n + 1)) = ctb f (a + n) + (if f (a + n) = true then 1 else 0) := rfl
    have e2 : ctb (fun i => f (a + i)) (n + 1) = ctb (fun i => f (a + i)) n + (if f (a + n) = true then 1 else 0) := rfl
    omega
theorem cn_ct (f : Nat → Int32) (a : Nat) : ∀ n, cn f a n + ctb (fun i => ! decide (f (a + i) = 0)) n = n := by
  intro n
  induction n with
  | zero => rfl
  | succ n ih =>
    unfold cn ctb
    by_cases e : f (a + n) = 0
    · rw [if_pos e, if_neg (by simp [e])]; omega
    · rw [if_neg e, if_pos (by simp [e])]; omega
theorem cnt_sN (P : Mem) (f : Nat) : ∀ b, sN (cpl P) (12 * f + b) = sN (cpl P) (12 * f) + cnt P f b := by
  intro b
  induction b with
  | zero => rfl
  | succ b ih =>
    show sN (cpl P) (12 * f + b) + cpl P (12 * f + b) = sN (cpl P) (12 * f) + (cnt P f b + cpl P (12 * f + b))
    rw [ih]; omega
theorem cells_up {n : Int} {P : Mem} (h : zI n P) (j : zJ P) : mn P 4 + 2 * an P 4 ≤ 120 ∧ cn (P 6) 0 40 + cn (P 6) 40 40 + cn (P 6) 80 40 = 120 - (mn P 4 + 2 * an P 4) := by
  obtain ⟨i1, i2, i3, i4, -⟩ := id h
  -- all places
  have hU : ctb (fun c => ! decide (P 6 c = 0)) 120 = sN (cpl P) 53 := by
    let pl : Nat → Int32 := fun k => if k < 53 then P 11 k else P 12 (k - 53)
    have p1 : ∀ k, k < 53 → pl k = P 11 k := fun k hk => if_pos hk
    have p2 : ∀ k, pl (53 + k) = P 12 k := fun k => by show (if 53 + k < 53 then _ else _) = _; rw [if_neg (by omega), Nat.add_sub_cancel_left]
    have h1 : ∀ k, k < 106 → pl k = -1 ∨ ∃ c : Nat, c < 120 ∧ pl k = nI c := by
      intro k hk
      by_cases q : k < 53
      · rw [p1 k q]; exact pl_d (i1 k q).1
      · have e : k = 53 + (k - 53) := by omega
        rw [e, p2]; exact pl_d (i1 (k - 53) (by omega)).2
    have h2 : ∀ a b, a < 106 → b < 106 → pl a = pl b → pl a ≠ -1 → a = b := by
      intro a b ha hb e ne
      by_cases qa : a < 53
      · rw [p1 a qa] at e ne
        by_cases qb : b < 53
        · rw [p1 b qb] at e
          exact (i3 a b qa qb).1 e ne
        · have eb : b = 53 + (b - 53) := by omega
          rw [eb, p2] at e
          exact absurd ((i3 a (b - 53) qa (by omega)).2.2 e) ne
      · have ea : a = 53 + (a - 53) := by omega
        rw [ea, p2] at e ne
        by_cases qb : b < 53
        · rw [p1 b qb] at e
          exact absurd (e.trans ((i3 b (a - 53) qb (by omega)).2.2 e.symm)) ne
        · have eb : b = 53 + (b - 53) := by omega
          rw [eb, p2] at e
          have := (i3 (a - 53) (b - 53) (by omega) (by omega)).2.1 e ne
          omega
    have c1 : ctb (fun c => ! decide (P 6 c = 0)) 120 = ctb (us pl 106) 120 := by
      refine ctb_congr 120 (fun c hc => ?_)
      rw [Bool.eq_iff_iff, us_iff]
      constructor
      · intro z
        have z' : P 6 c ≠ 0 := by simpa using z
        rcases i2 c hc with q | ⟨_, k, hk, q⟩
        · exact absurd q z'
        · rcases q with q | q
          · exact ⟨k, by omega, by rw [p1 k hk]; exact q⟩
          · exact ⟨53 + k, by omega, by rw [p2]; exact q⟩
      · rintro ⟨k, hk, q⟩
        have hcu : ∀ x, cU P x → x = nI c → P 6 c = 1 := by
          intro x hx e
          rcases cU_c hx with y | ⟨d, hd, y, hu⟩
          · exact absurd (e.symm.trans y) (nI_neg hc)
          · rw [nI_inj hc hd (e.symm.trans y)]; exact hu
        have : P 6 c = 1 := by
          by_cases qk : k < 53
          · rw [p1 k qk] at q; exact hcu _ (i1 k qk).1 q
          · have e : k = 53 + (k - 53) := by omega
            rw [e, p2] at q; exact hcu _ (i1 (k - 53) (by omega)).2 q
        simp [this]
    rw [c1, us_ct h1 h2 106 (Nat.le_refl _), show (106 : Nat) = 53 + 53 from rfl, ct_app]
    have c2 : ctb (fun k => ! decide (pl k = -1)) 53 = ctb (fun k => ! decide (P 11 k = -1)) 53 := ctb_congr 53 (fun k hk => by rw [p1 k hk])
    have c3 : ctb (fun k => ! decide (pl (53 + k) = -1)) 53 = ctb (fun k => ! decide (P 12 k = -1)) 53 := ctb_congr 53 (fun k hk => by rw [p2 k])
    rw [c2, c3, ct2]
    refine sN_congr 53 (fun k hk => ?_)
    unfold cpl
    by_cases a : P 11 k = -1
    · have b : P 12 k = -1 := by
        by_cases z : P 12 k = -1
        · exact z
        · exact absurd a (i4 k hk z).1
      simp [a, b]
    · by_cases b : P 12 k = -1 <;> simp [a, b]
  have hnode : ∀ f, f < 4 → cpl P (48 + f) = 2 * hs P f 12 := by
    intro f hf
    have hl := hs_le P f 12
    have hh := gd_hs h j hf
    unfold cpl
    by_cases a : P 11 (48 + f) = -1
    · rw [if_pos a]
      have : hs P f 12 = 0 := by
        by_cases z : hs P f 12 = 0
        · exact z
        · exact absurd a (hh.mp z)
      omega
    · rw [if_neg a, if_neg (j.2.2.1 f hf a)]
      have := hh.mpr a
      omega
  have hroot : cpl P 52 = 2 * an P 4 := by
    have hl := an_le P 4
    have hh := gd_an h j
    unfold cpl
    by_cases a : P 11 52 = -1
    · rw [if_pos a]
      have : an P 4 = 0 := by
        by_cases z : an P 4 = 0
        · exact z
        · exact absurd a (hh.mp z)
      omega
    · rw [if_neg a, if_neg (j.2.2.2.1 a).1]
      have := hh.mpr a
      omega
  have s0 := cnt_sN P 0 12
  have s1 := cnt_sN P 1 12
  have s2 := cnt_sN P 2 12
  have s3 := cnt_sN P 3 12
  have s53 : sN (cpl P) 53 = sN (cpl P) 48 + cpl P 48 + cpl P 49 + cpl P 50 + cpl P 51 + cpl P 52 := rfl
  have z0 : sN (cpl P) 0 = 0 := rfl
  have m4 : mn P 4 = 0 + cnt P 0 12 + 2 * hs P 0 12 + cnt P 1 12 + 2 * hs P 1 12 + cnt P 2 12 + 2 * hs P 2 12 + cnt P 3 12 + 2 * hs P 3 12 := rfl
  have n0 := hnode 0 (by decide)
  have n1 := hnode 1 (by decide)
  have n2 := hnode 2 (by decide)
  have n3 := hnode 3 (by decide)
  have q0 := cn_ct (P 6) 0 40
  have q1 := cn_ct (P 6) 40 40
  have q2 := cn_ct (P 6) 80 40
  have a1 := ct_app (fun c => ! decide (P 6 c = 0)) 40 80
  have a2 := ct_app (fun c => ! decide (P 6 (40 + c) = 0)) 40 40
  have g0 : ctb (fun i => ! decide (P 6 (0 + i) = 0)) 40 = ctb (fun c => ! decide (P 6 c = 0)) 40 := ctb_congr 40 (fun i _ => by rw [Nat.zero_add])
  have g2 : ctb (fun i => ! decide (P 6 (40 + (40 + i)) = 0)) 40 = ctb (fun i => ! decide (P 6 (80 + i) = 0)) 40 := ctb_congr 40 (fun i _ => by rw [show 40 + (40 + i) = 80 + i by omega])
  have e120 : ctb (fun c => ! decide (P 6 c = 0)) (40 + 80) = sN (cpl P) 53 := hU
  have e80 : ctb (fun c => ! decide (P 6 (40 + c) = 0)) 80 = ctb (fun c => ! decide (P 6 (40 + c) = 0)) (40 + 40) := rfl
  simp only [Nat.mul_zero, Nat.zero_add, Nat.mul_one, Nat.reduceMul, Nat.reduceAdd] at s0 s1 s2 s3 n0 n1 n2 n3
  omega
theorem HF_of {n : Int} {P : Mem} {l h : Nat → Int32} (g : gdd n P l h) : HF P l h := by
  obtain ⟨gi, gj, gh, gl⟩ := g
  obtain ⟨i1, i2, i3, i4, i5, i6, ⟨i7, i8, i9⟩, i10, i11, i12, i13, i14⟩ := id gi
  obtain ⟨j1, j2, j3, j4, j5⟩ := id gj
  have lt0 : ∀ x : Int32, 0 < x ↔ 0 < x.toInt := fun x => by rw [Int32.lt_iff_toInt_lt]; exact Iff.rfl
  have ne0 : ∀ x : Int32, 0 ≤ x.toInt → (0 < x ↔ x ≠ 0) := by
    intro x hx
    rw [lt0]
    constructor
    · intro q e; rw [e] at q; exact absurd q (by decide)
    · intro q
      have : x.toInt ≠ 0 := fun e => q (Int32.toInt_inj.mp (by simpa using e))
      omega
  refine ⟨?_, ?_, ?_, ?_, gd_an gi gj, fun c t ht => cs_ok gi c ht, cells_up gi gj⟩
  · intro k hk
    rw [gh k hk, ne0 _ (j5 k hk)]
    exact ⟨fun z => j2 k hk z, fun z => i8 k hk z⟩
  · intro k hk
    refine ⟨?_, ?_⟩
    · by_cases e : P 11 k = -1
      · rw [i7 k (by omega) e]
        exact ⟨fun z => absurd z (by decide), fun z => absurd e z⟩
      · have := j1 k (by omega) e
        rw [lt0]
        exact ⟨fun _ => e, fun _ => this.1⟩
    · rw [Int32.le_iff_toInt_le]
      by_cases e : P 11 k = -1
      · rw [i7 k (by omega) e]
        simp only [Int32.reduceToInt]
        omega
      · have := j1 k (by omega) e
        omega
  · intro f b hf hb
    have hv := vN_ge gi gj (k := 12 * f + b) (by omega)
    rw [gl _ (by omega), ne0 _ hv]
    obtain ⟨c1, c2⟩ := nd_c (P := P) hf hb
    exact ⟨c1, fun z => c2 (Decidable.byContradiction z)⟩
  · intro f hf
    rw [gd_hs gi gj hf]
    constructor
    · exact fun z => j3 f hf z
    · exact fun z => (i4 (48 + f) (by omega) z).1
end
