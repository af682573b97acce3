section
/-! ===== PURE, sync: choosing for all files ===== -/
def GF (M0 : Mem) (F : Nat) (N : Mem) : Prop := ∀ f, f < 4 → (f < F → (ch M0 f → N 16 (48 + f) = 1) ∧ (¬ ch M0 f → N 16 (48 + f) = 0)) ∧ (F ≤ f → N 16 (48 + f) = 0)
theorem v_75F (a b : Bool) (k : Nat) (v : Int32) (N : Mem) : (l_X5_tries_75 k false a b v N).1 = false ∧ (l_X5_tries_75 k false a b v N).2.2.2.2 = N := by
  cases k with
  | zero => exact ⟨rfl, rfl⟩
  | succ k =>
    show (b_X5_tries_75 (l_X5_tries_75 k) false a b v N).1 = false ∧ (b_X5_tries_75 (l_X5_tries_75 k) false a b v N).2.2.2.2 = N
    unfold b_X5_tries_75
    split
    · exact ⟨rfl, rfl⟩
    · rw [if_neg (by decide)]; exact ⟨rfl, rfl⟩
theorem tau_f {f : Nat} (hf : f < 4) : tau (48 + f) = 13 * f + 12 := by unfold tau; rw [if_neg (by omega), if_pos (by omega)]; omega
theorem tau_fi {f p : Nat} (hf : f < 4) (hp : p < 53) (h : tau p = 13 * f + 12) : p = 48 + f := by
  unfold tau at h
  split at h
  · omega
  · split at h <;> omega
theorem no_b {M0 : Mem} {F p : Nat} (hF : F < 4) (hc : ¬ ch M0 F) (hp : p < 53) (h1 : 13 * F ≤ tau p) (h2 : tau p < 13 * (F + 1)) : ¬ want M0 p ∧ (p < 48 → M0 15 p = -1) := by
  have h15 : p < 48 → M0 15 p = -1 := by
    intro h
    have e : p = 12 * F + (p - 12 * F) ∧ p - 12 * F < 12 := by unfold tau at h1 h2; rw [if_pos h] at h1 h2; omega
    by_cases q : M0 15 p = -1
    · exact q
    · exact absurd ⟨p - 12 * F, e.2, by rw [← e.1]; exact q⟩ hc
  refine ⟨?_, h15⟩
  unfold want
  by_cases h : p < 48
  · rw [if_pos h]; exact fun q => q.1 (h15 h)
  · rw [if_neg h]
    unfold tau at h1 h2
    rw [if_neg h] at h1 h2
    by_cases h' : p < 52
    · rw [if_pos h']
      rw [if_pos h'] at h1 h2
      rw [show p - 48 = F by omega]
      exact fun q => hc q.1
    · rw [if_neg h'] at h1 h2; omega
/-- what choosing for the files leaves: a failure, or a good choice -/
def LF (M0 N0 : Mem) (a : (Bool × Mem) ⊕ (Int32 × Mem)) (b : Bool × Bool × Bool × Int32 × Mem) : Prop :=
  (∃ M', a = .inl (false, M') ∧ b.1 = false ∧ FM M0 M' ∧ FN N0 b.2.2.2.2) ∨
  (∃ M' w, a = .inr (w, M') ∧ b.1 = true ∧ (b.2.1 = true ↔ ∃ f : Nat, f < 4 ∧ ch M0 f) ∧ (b.2.2.1 = true ↔ ∃ f : Nat, f < 4 ∧ hd M0 f) ∧ CH M0 52 M' b.2.2.2.2 ∧ FN N0 b.2.2.2.2 ∧ WT M0 52 M' ∧ GB M0 52 b.2.2.2.2 ∧ GF M0 4 b.2.2.2.2 ∧ b.2.2.2.2 16 52 = 0)
theorem y_e3 {F k : Nat} (hk : 4 - F + 1 ≤ k + 1) (hF : F < 4) : 4 - (F + 1) + 1 ≤ k := by omega
theorem u_cff {x : Int32} {M : Mem} (hx : f_X4_isFile x = true) : f_X4_chooseForFile x M = Sum.elim (fun r => r) (fun e => if f_X4_hasData x e.2 = true then f_X1_choose (48 + x) 2 e.2 else (true, e.2)) (l_X4_chooseForFile_20 x (M 5 x.toNatClampNeg) 13 0 M) := by
  have g : ∀ q : Bool × Mem, (if q.1 = true then (true, q.2) else (false, q.2)) = q := by
    rintro ⟨a, b⟩; cases a <;> rfl
  unfold f_X4_chooseForFile
  rw [if_pos hx]
  show Sum.elim (fun r => r) (fun e => if f_X4_hasData x e.2 = true then (if (f_X1_choose (48 + x) 2 e.2).1 = true then (true, (f_X1_choose (48 + x) 2 e.2).2) else (false, (f_X1_choose (48 + x) 2 e.2).2)) else (true, e.2)) (l_X4_chooseForFile_20 x (M 5 x.toNatClampNeg) 13 0 M) = _
  cases l_X4_chooseForFile_20 x (M 5 x.toNatClampNeg) 13 0 M with
  | inl r => rfl
  | inr e => simp only [Sum.elim_inr, g]
theorem r_lfiles {M0 N0 : Mem} (hS : SY M0 N0) : ∀ (k : Nat) (x : Int32) (v2 v3 : Bool) (F : Nat) (M N : Mem), x.toInt = F → F ≤ 4 → 4 - F + 1 ≤ k →
    CH M0 (13 * F) M N → FN N0 N → WT M0 (13 * F) M → GB M0 (13 * F) N → GF M0 F N → N 16 52 = 0 → (v2 = true ↔ ∃ f : Nat, f < F ∧ ch M0 f) → (v3 = true ↔ ∃ f : Nat, f < F ∧ hd M0 f) →
    LF M0 N0 (l_X4_choosePlaces_13 k x M) (l_X5_tries_75 k true v2 v3 x N) := by
  intro k
  induction k with
  | zero => intro x v2 v3 F _ _ _ _ h; omega
  | succ k ih =>
    intro x v2 v3 F M N hxF hF4 hk hC hF hW hG hGF h52 h2 h3
    rw [show l_X4_choosePlaces_13 (k + 1) x M = b_X4_choosePlaces_13 (l_X4_choosePlaces_13 k) x M from rfl, show l_X5_tries_75 (k + 1) true v2 v3 x N = b_X5_tries_75 (l_X5_tries_75 k) true v2 v3 x N from rfl]
    unfold b_X4_choosePlaces_13 b_X5_tries_75
    by_cases hg : 4 ≤ x
    · rw [if_pos hg, if_pos hg]
      rw [Int32.le_iff_toInt_le] at hg
      simp only [Int32.reduceToInt] at hg
      have : F = 4 := by omega
      subst this
      exact Or.inr ⟨M, x, rfl, rfl, h2, h3, hC, hF, hW, hG, hGF, h52⟩
    · have hn := z_p1 hg
      have hx := z_4 hg (by omega)
      have hxN : x.toNatClampNeg = F := by have := y_N hx.1; omega
      have hFl : F < 4 := by omega
      rw [if_neg hg, if_neg hg]
      simp only [if_true, zlet]
      have hz := zR_FN hS.1 hF
      have hFM := hC.2.1
      have uc := u_ch (M := M) hx
      have vc := v_ch hz hx
      have vd := v_hd hz hx
      rw [hxN] at uc vc vd
      rw [ch_FM hFM] at uc
      have ej : ((if v3 = true then true else if f_X5_hasData x N = true then true else false) = true ↔ ∃ f : Nat, f < F + 1 ∧ hd M0 f) := by
        constructor
        · intro q
          by_cases w : v3 = true
          · obtain ⟨f, f1, f2⟩ := h3.mp w; exact ⟨f, by omega, f2⟩
          · rw [if_neg w] at q
            by_cases w2 : f_X5_hasData x N = true
            · exact ⟨F, by omega, vd.mp w2⟩
            · rw [if_neg w2] at q; exact absurd q (by decide)
        · rintro ⟨f, f1, f2⟩
          by_cases w : v3 = true
          · rw [if_pos w]
          · rw [if_neg w]
            have : f = F := by
              rcases Nat.lt_or_ge f F with q | q
              · exact absurd (h3.mpr ⟨f, q, f2⟩) w
              · omega
            rw [this] at f2
            rw [if_pos (vd.mpr f2)]
      revert ej
      generalize (if v3 = true then true else if f_X5_hasData x N = true then true else false) = j3
      intro ej
      have e1 : (x + 1).toInt = ((F + 1 : Nat) : Int) := by omega
      have e2 : F + 1 ≤ 4 := by omega
      have e3 : 4 - (F + 1) + 1 ≤ k := y_e3 hk hFl
      by_cases hc : ch M0 F
      · rw [if_pos (uc.mpr hc), if_pos (vc.mpr hc), y_f13 hx]
        have hcf := u_cff (M := M) (q_isFile.mpr hx)
        rw [hxN, hFM 5 (by decide) (by decide) (by decide) (by decide)] at hcf
        have e48 : (48 + x).toNatClampNeg = 48 + F := by rw [y_48 hx, hxN]
        rw [e48]
        have hC1 : CH M0 (13 * F) M (mup N 16 (48 + F) 1) := CH_N hC (by simp [mup, mset]) (by simp [mup, mset]) (by simp [mup, mset]) (by simp [mup, mset])
        have n16 : (mup N 16 (48 + F) 1) 16 = upd (N 16) (48 + F) 1 := by simp [mup, mset]
        have hG1 : GB M0 (13 * F) (mup N 16 (48 + F) 1) := by
          intro p hp; rw [n16, pk_un (by omega)]; exact hG p hp
        have hh2 : (true = true ↔ ∃ f : Nat, f < F + 1 ∧ ch M0 f) := ⟨fun _ => ⟨F, by omega, hc⟩, fun _ => rfl⟩
        have L := r_lfile (a := 1) (jj := j3) hS hx (cp := M0 5 F) (by rw [hxN]) 13 0 0 M (mup N 16 (48 + F) 1) rfl (by omega) (by omega) (by rw [hxN]; exact hC1) (FN_16 hF) (by rw [hxN]; exact hW) (by rw [hxN]; exact hG1)
        rw [hxN, Int32.add_zero] at L
        rcases L with ⟨M', r1, r2, r3, r4⟩ | ⟨M', w, r1, r2, r3, r4, r5, r6, r7⟩
        · rw [r1, Sum.elim_inl] at hcf
          rw [hcf, r2]
          simp only [Bool.false_eq_true, if_false]
          obtain ⟨w1, w2⟩ := v_75F true j3 k (x + 1) (l_X5_tries_133 1 j3 x 13 true (12 * x) (mup N 16 (48 + F) 1)).2.2
          exact Or.inl ⟨M', rfl, w1, r3, by rw [w2]; exact r4⟩
        · rw [r1, Sum.elim_inr] at hcf
          simp only at hcf
          rw [r2]
          simp only [if_true]
          revert r3 r4 r6 r7
          generalize (l_X5_tries_133 1 j3 x 13 true (12 * x) (mup N 16 (48 + F) 1)).2.2 = N1
          intro r3 r4 r6 r7
          have hz1 := zR_FN hS.1 r4
          have ud := u_hd (M := M') hx
          have vd1 := v_hd hz1 hx
          rw [hxN] at ud vd1
          rw [hd_FM r3.2.1] at ud
          have k48 : ∀ f, f < 4 → N1 16 (48 + f) = if f = F then 1 else N 16 (48 + f) := by
            intro f hf
            rw [r7 _ (by omega), n16]
            unfold upd
            by_cases e : f = F
            · rw [if_pos (by omega), if_pos e]
            · rw [if_neg (by omega), if_neg e]
          have k52 : N1 16 52 = 0 := by rw [r7 _ (by omega), n16, pk_un (by omega)]; exact h52
          have hGF1 : GF M0 (F + 1) N1 := by
            intro f hf
            rw [k48 f hf]
            by_cases e : f = F
            · subst e
              rw [if_pos rfl]
              exact ⟨fun _ => ⟨fun _ => rfl, fun q => absurd hc q⟩, fun q => by omega⟩
            · rw [if_neg e]
              exact ⟨fun q => (hGF f hf).1 (by omega), fun q => (hGF f hf).2 (by omega)⟩
          have hGB1 : ∀ N', (∀ p, p < 48 → N' 16 p = N1 16 p) → GB M0 (13 * (F + 1)) N' := by
            intro N' hN' p hp
            rw [hN' p hp]
            have hne : tau p ≠ 13 * F + 12 := fun q => by have := tau_fi hFl (by omega) q; omega
            exact ⟨fun q => (r6 p hp).1 (by omega), fun q => (r6 p hp).2 (by omega)⟩
          have fr := r3.2.2.2.2.2.1 (48 + F) (by omega) (by rw [tau_f hFl]; exact Nat.le_refl _)
          have hbi : ∀ p, p < 53 → tau p = 13 * F + 12 → p = 48 + F := fun p hp h => tau_fi hFl hp h
          have wE : want M0 (48 + F) ↔ ch M0 F ∧ hd M0 F := by
            unfold want
            rw [if_neg (by omega), if_pos (by omega), show 48 + F - 48 = F by omega]
          by_cases hdF : hd M0 F
          · rw [if_pos (ud.mpr hdF)] at hcf
            rw [hcf, if_pos (vd1.mpr hdF)]
            obtain ⟨c1, c2, c3, c4, c5, c6⟩ := r_choose (n3 := 2) (two := true) (p := 48 + x) r3 r4 (y_fp hx) (by rw [e48]; exact tau_f hFl) (by decide)
            rw [e48] at c4 c5 c6
            revert c1 c2 c3 c4 c5 c6
            generalize (f_X1_choose (48 + x) 2 M').1 = a1
            generalize (f_X1_choose (48 + x) 2 M').2 = a2
            generalize (f_X5_tryOut (48 + x) true N1).1 = b1
            generalize (f_X5_tryOut (48 + x) true N1).2 = b2
            intro c1 c2 c3 c4 c5 c6
            subst c1
            cases a1 with
            | false =>
              simp only [Bool.false_eq_true, if_false]
              obtain ⟨w1, w2⟩ := v_75F true j3 k (x + 1) b2
              exact Or.inl ⟨a2, rfl, w1, c2, by rw [w2]; exact c3⟩
            | true =>
              simp only [if_true]
              obtain ⟨c7, c8⟩ := c6 rfl
              refine ih (x + 1) true j3 (F + 1) a2 b2 e1 e2 e3 c7 c3 (WT_yes r5 hbi (tau_f hFl) c8 c5 (wE.mpr ⟨hc, hdF⟩)) (hGB1 b2 (fun p hp => by rw [c4, pk_un (by omega)])) ?_ (by rw [c4, pk_un (by omega)]; exact k52) hh2 ej
              intro f hf
              rw [c4]
              by_cases e : f = F
              · subst e
                rw [pk_us]
                exact ⟨fun _ => ⟨fun _ => rfl, fun q => absurd hc q⟩, fun q => by omega⟩
              · rw [pk_un (by omega)]
                exact hGF1 f hf
          · rw [if_neg (fun q => hdF (ud.mp q))] at hcf
            rw [hcf, if_neg (fun q => hdF (vd1.mp q))]
            simp only [if_true]
            exact ih (x + 1) true j3 (F + 1) M' N1 e1 e2 e3 (CH_mono r3 (by omega)) r4 (WT_no r5 hbi fr.1 (fun q => hdF (wE.mp q).2)) (hGB1 N1 (fun _ _ => rfl)) hGF1 k52 hh2 ej
      · rw [if_neg (fun q => hc (uc.mp q)), if_neg (fun q => hc (vc.mp q))]
        refine ih (x + 1) v2 j3 (F + 1) M N e1 e2 e3 (CH_mono hC (by omega)) hF ?_ ?_ ?_ h52 ?_ ej
        · intro p hp ht
          rcases Nat.lt_or_ge (tau p) (13 * F) with q | q
          · exact hW p hp q
          · rw [(hC.2.2.2.2.2.1 p hp q).1]
            exact ⟨fun w => absurd rfl w, fun w => absurd w (no_b hFl hc hp q ht).1⟩
        · intro p hp
          refine ⟨fun ht => ?_, fun ht => (hG p hp).2 (by omega)⟩
          rcases Nat.lt_or_ge (tau p) (13 * F) with q | q
          · exact (hG p hp).1 q
          · rw [(hG p hp).2 q, if_pos ((no_b hFl hc (by omega) q ht).2 hp)]
        · intro f hf
          refine ⟨fun q => ?_, fun q => (hGF f hf).2 (by omega)⟩
          by_cases e : f = F
          · subst e
            exact ⟨fun w => absurd w hc, fun _ => (hGF f hf).2 (Nat.le_refl f)⟩
          · exact (hGF f hf).1 (by omega)
        · rw [h2]
          constructor
          · rintro ⟨f, f1, f2⟩; exact ⟨f, by omega, f2⟩
          · rintro ⟨f, f1, f2⟩
            by_cases e : f = F
            · rw [e] at f2; exact absurd f2 hc
            · exact ⟨f, by omega, f2⟩
end
