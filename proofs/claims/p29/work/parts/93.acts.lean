/-! ===== PURE: an act keeps a pool good, and what was written last ===== -/
section
/-- a good pool: last (l), held (h) -/
def gdd (n : Int) (P : Mem) (l h : Nat → Int32) : Prop := zI n P ∧ zJ P ∧ (∀ k, k < 48 → h k = P 10 k) ∧ ∀ k, k < 48 → l k = vN P k
theorem vN_congr {P P' : Mem} (h10 : P' 10 = P 10) (h15 : P' 15 = P 15) (k : Nat) : vN P' k = vN P k := by unfold vN; rw [h10, h15]
theorem gdd_congr {n m : Int} {P P' : Mem} {l h : Nat → Int32} (g : gdd n P l h) (i : zI m P') (h3 : P' 3 = P 3) (h10 : P' 10 = P 10) (h11 : P' 11 = P 11) (h12 : P' 12 = P 12) (h14 : P' 14 = P 14) (h15 : P' 15 = P 15) : gdd m P' l h :=
  ⟨i, zJ_congr g.2.1 h3 h10 h11 h12 h14, fun k hk => by rw [g.2.2.1 k hk, h10], fun k hk => by rw [g.2.2.2 k hk, vN_congr h10 h15]⟩
theorem gdd_ST {n m : Int} {P P' : Mem} {l h : Nat → Int32} (g : gdd n P l h) (i : zI m P') (s : ST P P') : gdd m P' l h :=
  gdd_congr g i (s 3 (by decide) (by decide) (by decide) (by decide)) (s 10 (by decide) (by decide) (by decide) (by decide)) (s 11 (by decide) (by decide) (by decide) (by decide)) (s 12 (by decide) (by decide) (by decide) (by decide)) (s 14 (by decide) (by decide) (by decide) (by decide)) (s 15 (by decide) (by decide) (by decide) (by decide))
theorem gdd_mono {n m : Int} {P : Mem} {l h : Nat → Int32} (g : gdd n P l h) (hm : n ≤ m) : gdd m P l h := ⟨zI_mono g.1 hm, g.2⟩
/-- the buffer alone is another one -/
theorem gdd_15 {n : Int} {P P' : Mem} {l l' h : Nat → Int32} (g : gdd n P l h) (i : zI n P') (s : ∀ j, j ≠ 15 → P' j = P j) (hl : ∀ k, k < 48 → l' k = vN P' k) : gdd n P' l' h :=
  ⟨i, zJ_congr g.2.1 (s 3 (by decide)) (s 10 (by decide)) (s 11 (by decide)) (s 12 (by decide)) (s 14 (by decide)), fun k hk => by rw [g.2.2.1 k hk, s 10 (by decide)], hl⟩
theorem y_write {f b v : Nat} {P : Mem} (hf : f < 4) (hb : b < 12) (hv : 1 ≤ v ∧ v ≤ 9999) : f_X4_write (nI f) (nI b) (nI v) P = (.inl (vN P (12 * f + b)), mup P 15 (12 * f + b) (nI v)) := by
  have h48 : 0 ≤ (nI (12 * f + b)).toInt ∧ (nI (12 * f + b)).toInt < 48 := nI_r (N := 48) (by omega) (by decide)
  unfold f_X4_write
  rw [if_pos (q_bf hf hb), if_neg (show ¬ nI v < 1 from nI_nlt (a := v) (b := 1) (by omega) (by omega)), if_pos (show nI v ≤ 9999 from nI_le (a := v) (b := 9999) (by omega) (by decide)), y_bpn, u_change h48, nI_clamp (by omega)]
  simp only [zlet]
  rw [u_now ⟨nI_r (N := 4) hf (by decide), nI_r (N := 12) hb (by decide)⟩, nI_clamp (by omega), nI_clamp (by omega)]
theorem pu_loop {f t : Nat} {P : Mem} (hf : f < 4) (ht : t < 12) (a : Nat) : ∀ (j k b : Nat) (v : Int32), b + j = t + 1 → j + 1 ≤ k → a ≤ 12 * f + b →
    (l_X4_punch_36 (nI f) (nI t) k v (nI b) (mset P 15 (lzt (P 15) a (12 * f + b)))).2.2 = mset P 15 (lzt (P 15) a (12 * f + (t + 1))) := by
  intro j
  induction j with
  | zero =>
    intro k b v hb hk ha
    have e : b = t + 1 := by omega
    subst e
    cases k with
    | zero => omega
    | succ k =>
      show (b_X4_punch_36 (nI f) (nI t) (l_X4_punch_36 (nI f) (nI t) k) v (nI (t + 1)) _).2.2 = _
      unfold b_X4_punch_36
      rw [if_pos (nI_lt (a := t) (b := t + 1) (by omega) (by omega))]
  | succ j ih =>
    intro k b v hb hk ha
    cases k with
    | zero => omega
    | succ k =>
      have h48 : 0 ≤ (nI (12 * f + b)).toInt ∧ (nI (12 * f + b)).toInt < 48 := nI_r (N := 48) (by omega) (by decide)
      show (b_X4_punch_36 (nI f) (nI t) (l_X4_punch_36 (nI f) (nI t) k) v (nI b) _).2.2 = _
      unfold b_X4_punch_36
      rw [if_neg (nI_nlt (a := t) (b := b) (by omega) (by omega)), y_bpn, nI_1, u_change h48, nI_clamp (by omega)]
      have em : mup (mset P 15 (lzt (P 15) a (12 * f + b))) 15 (12 * f + b) 0 = mset P 15 (lzt (P 15) a (12 * f + (b + 1))) := by
        unfold mup
        rw [mset_eq, mset_mset, lzt_s _ ha]
        rfl
      simp only [zlet, em]
      split
      · exact ih k (b + 1) v (by omega) (by omega) (by omega)
      · exact ih k (b + 1) (v + 1) (by omega) (by omega) (by omega)
theorem y_punch {f b t : Nat} {P : Mem} (hf : f < 4) (hb : b < 12) (ht : t < 12) (hbt : b ≤ t) : (f_X4_punch (nI f) (nI b) (nI t) P).2 = mset P 15 (lzt (P 15) (12 * f + b) (12 * f + (t + 1))) := by
  unfold f_X4_punch
  rw [if_pos (q_bf hf hb), if_pos (q_isBlock.mpr (nI_r (N := 12) ht (by decide))), if_pos (nI_le hbt (by omega))]
  simp only [zlet]
  have e0 : P = mset P 15 (lzt (P 15) (12 * f + b) (12 * f + b)) := by rw [lzt_0, mset_self]
  have h := pu_loop (P := P) hf ht (12 * f + b) (t + 1 - b) (((nI t).toInt + 1 - (nI b).toInt).toNat + 1) b 0 (by omega) (by rw [nI_toInt (by omega), nI_toInt (by omega)]; omega) (Nat.le_refl _)
  rw [← e0] at h
  exact h
theorem y_setCopies (a b : Int32) (P : Mem) : ∀ j, j ≠ 5 → (f_X4_setCopies a b P).2 j = P j := by
  intro j hj
  unfold f_X4_setCopies
  split
  · split
    · rfl
    · split
      · exact mup_ne hj
      · rfl
  · rfl
theorem y_abandon (P : Mem) : (∀ j, j ≠ 15 → (f_X4_abandon P).2 j = P j) ∧ ∀ k, k < 48 → (f_X4_abandon P).2 15 k = -1 := by
  have e := u_lf15 (-1) 48 49 0 P (by decide) (by decide)
  have eD : (f_X4_abandon P).2 = (l_J7_fill_53178_15_5 (-1) 48 49 0 P).2 := rfl
  have z0 : ((0 : Int32).toNatClampNeg) = 0 := rfl
  have t48 : (48 : Int32).toInt = 48 := by decide
  rw [z0, t48] at e
  rw [eD, e]
  exact ⟨fun j hj => mset_ne hj, fun k hk => by rw [mset_eq, if_pos (by omega)]⟩
theorem st_scrub {n : Int} {P : Mem} (h : zI n P) : ST P (f_X4_scrub P).2 := by
  obtain ⟨v, M1, e, hS, -⟩ := scrub_SC h
  rw [e]
  exact (ST.of hS.1).trans (ST.up (Or.inl rfl))
theorem st_read {n : Int} {f b : Nat} {P : Mem} (hf : f < 4) (hb : b < 12) (h : zI n P) : ST P (f_X4_read (nI f) (nI b) P).2 := by
  rcases read_c hf hb h with ⟨_, e⟩ | ⟨_, _, e⟩ | ⟨_, _, v, A, hS, e⟩
  · rw [e]; exact ST.refl P
  · rw [e]; exact ST.refl P
  · rw [e]; exact (ST.of hS.1).trans (ST.up (Or.inl rfl))
/-- an act keeps all good -/
theorem act_good {n : Int} {P : Mem} {l h : Nat → Int32} (g : gdd n P l h) (hn : n + 1 < 2 ^ 31) (X : Nat) : gdd (n + 1) (f_act X P l h).2.1 (f_act X P l h).2.2.1 (f_act X P l h).2.2.2 := by
  have ha := acA_lt X
  have hd : 12 * (acA X / 12) + acA X % 12 = acA X := by omega
  unfold f_act
  by_cases c1 : X % 16 < 4
  · rw [if_pos c1]
    show gdd (n + 1) (f_X4_write _ _ _ P).2 _ h
    have i := g_write g.1 (nI (acA X / 12)) (nI (acA X % 12)) (nI (1 + (X / 16 / 48) % 9999))
    rw [y_write (by omega) (by omega) (by omega), hd] at i ⊢
    refine gdd_mono (gdd_15 g i (fun j hj => mup_ne hj) (fun k hk => ?_)) (by omega)
    have e10 : mup P 15 (acA X) (nI (1 + (X / 16 / 48) % 9999)) 10 = P 10 := mup_ne (by decide)
    have e15 : mup P 15 (acA X) (nI (1 + (X / 16 / 48) % 9999)) 15 = upd (P 15) (acA X) (nI (1 + (X / 16 / 48) % 9999)) := by unfold mup; exact mset_eq _ _ _
    show upd l _ _ k = vN (mup P 15 (acA X) (nI (1 + (X / 16 / 48) % 9999))) k
    unfold vN
    rw [e10, e15]
    by_cases e : k = acA X
    · subst e
      rw [pk_us, pk_us, if_neg (y_ne1 (by rw [nI_toInt (by omega)]; omega))]
    · rw [pk_un e, pk_un e]
      exact g.2.2.2 k hk
  rw [if_neg c1]
  by_cases c2 : X % 16 = 4
  · rw [if_pos c2]
    show gdd (n + 1) (f_X4_punch _ _ _ P).2 _ h
    have hm : (X / 16 / 48) % (12 - acA X % 12) < 12 - acA X % 12 := Nat.mod_lt _ (by omega)
    have i := g_punch g.1 (nI (acA X / 12)) (nI (acA X % 12)) (nI (acA X % 12 + (X / 16 / 48) % (12 - acA X % 12)))
    rw [y_punch (by omega) (by omega) (by omega) (by omega), hd] at i ⊢
    refine gdd_mono (gdd_15 g i (fun j hj => mset_ne hj) (fun k hk => ?_)) (by omega)
    have ee : acA X - acA X % 12 + (acA X % 12 + (X / 16 / 48) % (12 - acA X % 12) + 1) = 12 * (acA X / 12) + (acA X % 12 + (X / 16 / 48) % (12 - acA X % 12) + 1) := by omega
    rw [ee]
    generalize 12 * (acA X / 12) + (acA X % 12 + (X / 16 / 48) % (12 - acA X % 12) + 1) = z
    have e10 : mset P 15 (lzt (P 15) (acA X) z) 10 = P 10 := mset_ne (by decide)
    have e15 : mset P 15 (lzt (P 15) (acA X) z) 15 = lzt (P 15) (acA X) z := mset_eq _ _ _
    show lzt l (acA X) z k = vN (mset P 15 (lzt (P 15) (acA X) z)) k
    unfold vN
    rw [e10, e15]
    unfold lzt
    by_cases e : acA X ≤ k ∧ k < z
    · rw [if_pos e, if_pos e, if_neg (by decide)]
    · rw [if_neg e, if_neg e]
      exact g.2.2.2 k hk
  rw [if_neg c2]
  by_cases c3 : X % 16 = 5
  · rw [if_pos c3]
    have y := y_setCopies (nI (acA X / 12)) (nI (1 + (X / 16 / 48) % 2)) P
    exact gdd_mono (gdd_congr g (g_setCopies g.1 _ _) (y 3 (by decide)) (y 10 (by decide)) (y 11 (by decide)) (y 12 (by decide)) (y 14 (by decide)) (y 15 (by decide))) (by omega)
  rw [if_neg c3]
  by_cases c4 : X % 16 < 9
  · rw [if_pos c4]
    show gdd (n + 1) (f_X4_sync P).2 l (if eI (f_X4_sync P).1 < 0 then h else cpt l h 48)
    have i := g_sync g.1 hn
    rcases sync_c g.1 g.2.1 hn with ⟨P', e, hF⟩ | ⟨w, P', e, hw, hj, h10, h15⟩
    · rw [e] at i ⊢
      have er : eI ((Sum.inr "java/lang/IllegalStateException", P') : (Int32 ⊕ String) × Mem).1 < 0 := by show eK "java/lang/IllegalStateException" < 0; rw [eK_ISE]; decide
      rw [if_pos er]
      exact gdd_congr g i (hF 3 (by decide) (by decide) (by decide) (by decide)) (hF 10 (by decide) (by decide) (by decide) (by decide)) (hF 11 (by decide) (by decide) (by decide) (by decide)) (hF 12 (by decide) (by decide) (by decide) (by decide)) (hF 14 (by decide) (by decide) (by decide) (by decide)) (hF 15 (by decide) (by decide) (by decide) (by decide))
    · rw [e] at i ⊢
      have er : ¬ eI ((Sum.inl (nI w), P') : (Int32 ⊕ String) × Mem).1 < 0 := nI_pos (by omega)
      rw [if_neg er]
      refine ⟨i, hj, fun k hk => ?_, fun k hk => ?_⟩
      · show cpt l h 48 k = P' 10 k
        unfold cpt
        rw [if_pos hk, h10 k hk, g.2.2.2 k hk]
      · show l k = vN P' k
        rw [show vN P' k = P' 10 k by unfold vN; rw [if_pos (h15 k hk)], h10 k hk, g.2.2.2 k hk]
  rw [if_neg c4]
  by_cases c5 : X % 16 = 9
  · rw [if_pos c5]
    by_cases c : X / 16 % 3 = 0
    · show gdd (n + 1) (if X / 16 % 3 = 0 then (f_X4_abandon P).2 else (f_X4_scrub P).2) (if X / 16 % 3 = 0 then cpt h l 48 else l) h
      rw [if_pos c, if_pos c]
      obtain ⟨y1, y2⟩ := y_abandon P
      refine gdd_mono (gdd_15 g (g_abandon g.1) y1 (fun k hk => ?_)) (by omega)
      unfold vN cpt
      rw [if_pos hk, if_pos (y2 k hk), y1 10 (by decide), g.2.2.1 k hk]
    · show gdd (n + 1) (if X / 16 % 3 = 0 then (f_X4_abandon P).2 else (f_X4_scrub P).2) (if X / 16 % 3 = 0 then cpt h l 48 else l) h
      rw [if_neg c, if_neg c]
      exact gdd_mono (gdd_ST g (g_scrub g.1) (st_scrub g.1)) (by omega)
  rw [if_neg c5]
  by_cases c6 : X % 16 < 13
  · rw [if_pos c6]
    exact gdd_mono (gdd_ST g (g_spoil g.1 _ _ _) (st_spoil _ _ _ P)) (by omega)
  rw [if_neg c6]
  by_cases c7 : X % 16 = 13
  · rw [if_pos c7]
    exact gdd_mono (gdd_ST g (g_offline g.1 _ _) (st_offline _ _ P)) (by omega)
  rw [if_neg c7]
  by_cases c8 : X % 16 = 14
  · rw [if_pos c8]
    exact gdd_mono (gdd_ST g (g_online g.1 _ _) (st_online _ _ P)) (by omega)
  rw [if_neg c8]
  exact gdd_mono (gdd_ST g (g_read g.1 _ _) (st_read (by omega) (by omega) g.1)) (by omega)
-- all is read
theorem rP_k {n : Int} {P : Mem} (h : zI n P) : ∀ k, k ≤ 48 → zI n (rP P k) ∧ ST P (rP P k) ∧ ∀ q, q < 53 → fe (rP P k) q = fe P q := by
  intro k
  induction k with
  | zero => intro _; exact ⟨h, ST.refl P, fun _ _ => rfl⟩
  | succ k ih =>
    intro hk
    obtain ⟨i1, i2, i3⟩ := ih (by omega)
    have e : rP P (k + 1) = (f_X4_read (nI (k / 12)) (nI (k % 12)) (rP P k)).2 := rfl
    rw [e]
    refine ⟨g_read i1 _ _, i2.trans (st_read (by omega) (by omega) i1), fun q hq => ?_⟩
    rw [← i3 q hq]
    rcases read_c (f := k / 12) (b := k % 12) (by omega) (by omega) i1 with ⟨_, e⟩ | ⟨_, _, e⟩ | ⟨_, _, v, A, hS, e⟩
    · rw [e]
    · rw [e]
    · rw [e]
      show fe (mup A 0 5 _) q = _
      rw [fe_0 hq, hS.2.1 q hq]
theorem TF_of {n : Int} {P : Mem} {l h : Nat → Int32} (g : gdd n P l h) : TF P l := by
  obtain ⟨gi, gj, gh, gl⟩ := g
  refine ⟨fun k hk => ?_, lost_congr ((rP_k gi 48 (Nat.le_refl _)).2.1 11 (by decide) (by decide) (by decide) (by decide)) (rP_k gi 48 (Nat.le_refl _)).2.2⟩
  obtain ⟨i1, i2, i3⟩ := rP_k gi k (by omega)
  have ek : 12 * (k / 12) + k % 12 = k := by omega
  have e10 := i2 10 (by decide) (by decide) (by decide) (by decide)
  have e11 := i2 11 (by decide) (by decide) (by decide) (by decide)
  have e15 := i2 15 (by decide) (by decide) (by decide) (by decide)
  have hl := gl k hk
  unfold vN at hl
  have hc := read_c (f := k / 12) (b := k % 12) (by omega) (by omega) i1
  rw [ek, e15, e10] at hc
  rcases hc with ⟨a, e⟩ | ⟨a, u, e⟩ | ⟨a, _, v, A, hS, e⟩
  · left
    rw [e, hl, if_neg a]
    rfl
  · rw [if_pos a] at hl
    right
    rw [e]
    refine ⟨eK_ISE, ?_⟩
    by_cases z : P 10 k = 0
    · exact Or.inr (hl.trans z)
    · left
      refine lost_pos hk ?_
      have hp := gj.2.1 k hk z
      have uf : ∀ q, q < 53 → un (rP P k) q → fe P q = false := fun q hq z => by rw [← i3 q hq]; exact z.2
      unfold lo
      rcases u with u | u | u
      · rw [uf 52 (by decide) u]; simp [hp]
      · rw [uf (48 + k / 12) (by omega) u]; simp [hp]
      · rw [uf k (by omega) u]; simp [hp]
  · left
    rw [e, hl, if_pos a]
    rfl
end
