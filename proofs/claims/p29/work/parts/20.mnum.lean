/-! ===== NUMBERS for the reference ===== -/
theorem z_lin {k a b : Int32} (h1 : 0 ≤ k.toInt * a.toInt) (h2 : k.toInt * a.toInt < 2 ^ 30) (h3 : 0 ≤ b.toInt) (h4 : b.toInt < 2 ^ 30) : (k * a + b).toInt = k.toInt * a.toInt + b.toInt := by
  have e := z_mulI (a := k) (k := a) h1 (by omega)
  rw [z_addI (by rw [e]; omega) (by rw [e]; omega), e]
theorem z12 {a b : Int32} (ha : 0 ≤ a.toInt ∧ a.toInt < 4) (hb : 0 ≤ b.toInt ∧ b.toInt ≤ 12) : (12 * a + b).toInt = 12 * a.toInt + b.toInt := by
  have := z_lin (k := 12) (a := a) (b := b) (by simp; omega) (by simp; omega) hb.1 (by omega)
  simpa using this
theorem z12' {a : Int32} (ha : 0 ≤ a.toInt ∧ a.toInt < 4) : (12 * a).toInt = 12 * a.toInt := by
  have := z_mulI (a := 12) (k := a) (by simp; omega) (by simp; omega)
  simpa using this
theorem z40 {a b : Int32} (ha : 0 ≤ a.toInt ∧ a.toInt < 3) (hb : 0 ≤ b.toInt ∧ b.toInt ≤ 40) : (40 * a + b).toInt = 40 * a.toInt + b.toInt := by
  have := z_lin (k := 40) (a := a) (b := b) (by simp; omega) (by simp; omega) hb.1 (by omega)
  simpa using this
theorem z40' {a : Int32} (ha : 0 ≤ a.toInt ∧ a.toInt < 3) : (40 * a).toInt = 40 * a.toInt := by
  have := z_mulI (a := 40) (k := a) (by simp; omega) (by simp; omega)
  simpa using this
theorem z2 {a b : Int32} (ha : 0 ≤ a.toInt ∧ a.toInt < 120) (hb : 0 ≤ b.toInt ∧ b.toInt < 2) : (2 * a + b).toInt = 2 * a.toInt + b.toInt := by
  have := z_lin (k := 2) (a := a) (b := b) (by simp; omega) (by simp; omega) hb.1 (by omega)
  simpa using this
theorem z2' {a : Int32} (ha : 0 ≤ a.toInt ∧ a.toInt < 120) : (2 * a).toInt = 2 * a.toInt := by
  have := z_mulI (a := 2) (k := a) (by simp; omega) (by simp; omega)
  simpa using this
theorem z48 {a : Int32} (ha : 0 ≤ a.toInt ∧ a.toInt < 4) : (48 + a).toInt = 48 + a.toInt := by
  have := z_addI (a := 48) (b := a) (by simp; omega) (by simp; omega)
  simpa using this
theorem z_d40 {a : Int32} (h : 0 ≤ a.toInt) : (a / 40).toInt = a.toInt / 40 := by
  have := z_divI (a := a) (b := 40) h (by decide)
  simpa using this
theorem z_mod {v k : Int32} (h : 0 ≤ v.toInt) (hk : 0 < k.toInt) : (v - v / k * k).toInt = v.toInt % k.toInt := by
  rw [rem_toInt, Int.tmod_eq_emod_of_nonneg h]
/-- a place and a side to be looked at -/
abbrev zGd (p s : Int32) : Prop := (-1 ≤ p.toInt ∧ p.toInt < 120) ∧ 0 ≤ s.toInt ∧ s.toInt < 2
theorem z_ne {p : Int32} (h : -1 ≤ p.toInt) (hn : ¬ p = -1) : 0 ≤ p.toInt := by
  rcases Int.lt_or_le p.toInt 0 with h1 | h1
  · exact absurd (Int32.toInt_inj.mp (by simp; omega)) hn
  · exact h1
theorem z_g1 {p s : Int32} (h : zGd p s) (hn : ¬ p = -1) : vp_in (2 * (p / 40) + s) 6 := by
  have h0 := z_ne h.1.1 hn
  have e := z_d40 h0
  have h1 := h.1.2
  rw [vp_in_iff, z2 (by omega) h.2]
  have := h.2
  omega
theorem z_g2 {p s : Int32} (h : zGd p s) (hn : ¬ p = -1) : vp_in (2 * p + s) 240 := by
  have h0 := z_ne h.1.1 hn
  rw [vp_in_iff, z2 ⟨h0, h.1.2⟩ h.2]
  have := h.1; have := h.2
  omega
def zPl (f : Nat → Int32) : Prop := ∀ k : Nat, k < 53 → -1 ≤ (f k).toInt ∧ (f k).toInt < 120
abbrev PlM (M : Mem) : Prop := zPl (M 4) ∧ zPl (M 5)
theorem z_cl {p : Int32} {n : Nat} (h : vp_in p n) : p.toNatClampNeg < n := Nat.not_le.mp fun q => h (Or.inr q)
theorem zPl_at {f : Nat → Int32} {p s : Int32} (h : zPl f) (hp : vp_in p 53) (hs : 0 ≤ s.toInt ∧ s.toInt < 2) : zGd (f p.toNatClampNeg) s := ⟨h _ (z_cl hp), hs⟩
theorem PlM_up {M : Mem} {k i : Nat} {v : Int32} (h4 : 4 ≠ k) (h5 : 5 ≠ k) (h : PlM M) : PlM (mup M k i v) := by
  unfold PlM mup; rw [mset_ne h4, mset_ne h5]; exact h
theorem z_inv {C v : Int32} {lo hi : Int} (hn : ¬ C ≤ v) (hC : C.toInt ≤ hi) (h0 : lo ≤ v.toInt) : lo ≤ (v + 1).toInt ∧ (v + 1).toInt ≤ hi := by
  rw [Int32.le_iff_toInt_le] at hn
  have h1 := Int32.toInt_lt C
  have h2 := Int32.le_toInt v
  have e : (v + 1).toInt = v.toInt + (1 : Int32).toInt := z_addI (by simp; omega) (by simp; omega)
  rw [e]; simp; omega
theorem z_p1 {C v : Int32} (hn : ¬ C ≤ v) : (v + 1).toInt = v.toInt + 1 := by
  rw [Int32.le_iff_toInt_le] at hn
  have h1 := Int32.toInt_lt C
  have h2 := Int32.le_toInt v
  have e : (v + 1).toInt = v.toInt + (1 : Int32).toInt := z_addI (by simp; omega) (by simp; omega)
  rw [e]; simp
theorem z_p1l {C v : Int32} (hn : ¬ C < v) (hC : C.toInt < 2 ^ 30) : (v + 1).toInt = v.toInt + 1 := by
  rw [Int32.lt_iff_toInt_lt] at hn
  have h2 := Int32.le_toInt v
  have e : (v + 1).toInt = v.toInt + (1 : Int32).toInt := z_addI (by simp; omega) (by simp; omega)
  rw [e]; simp
theorem z_m1 {C v : Int32} (hn : ¬ v < C) (hC : -(2 ^ 30) < C.toInt) : (v + (-1)).toInt = v.toInt - 1 := by
  rw [Int32.lt_iff_toInt_lt] at hn
  have h2 := Int32.toInt_lt v
  have e : (v + (-1)).toInt = v.toInt + (-1 : Int32).toInt := z_addI (by simp; omega) (by simp; omega)
  rw [e]; simp; omega

theorem z_neg1 : (-1 : Int32).toInt = -1 := rfl
theorem z_52 : vp_in 52 53 := vp_in_nI (n := 52) (by decide) (by decide)
theorem z_mod2 {v : Int32} (h : 0 ≤ v.toInt) : 0 ≤ (v - v / 2 * 2).toInt ∧ (v - v / 2 * 2).toInt < 2 := by
  rw [z_mod h (by decide)]; simp only [Int32.reduceToInt]; omega
theorem z_c53a {a : Int32} (h : 0 ≤ a.toInt ∧ a.toInt < 4) : vp_in (48 + a) 53 := by rw [vp_in_iff, z48 h]; omega
theorem z_c53b {a b : Int32} (h : (0 ≤ a.toInt ∧ a.toInt < 4) ∧ 0 ≤ b.toInt ∧ b.toInt < 12) : vp_in (12 * a + b) 53 := by rw [vp_in_iff, z12 h.1 (by omega)]; omega
theorem z_c48b {a b : Int32} (h : (0 ≤ a.toInt ∧ a.toInt < 4) ∧ 0 ≤ b.toInt ∧ b.toInt < 12) : vp_in (12 * a + b) 48 := by rw [vp_in_iff, z12 h.1 (by omega)]; omega
theorem z_ps {C v : Int32} (hn : ¬ C < v) (hC : C.toInt < 2 ^ 30) (h0 : (0 : Int) ≤ v.toInt) : (0 : Int) ≤ (v + 1).toInt := by rw [z_p1l hn hC]; omega
theorem z_pC {a b : Int32} (h : (0 ≤ a.toInt ∧ a.toInt < 4) ∧ 0 ≤ b.toInt ∧ b.toInt < 12) : (12 * a + b).toInt < 2 ^ 30 := by rw [z12 h.1 (by omega)]; omega
theorem z_pv {a b v : Int32} (hn : ¬ (12 * a + b) < v) (h : (0 ≤ a.toInt ∧ a.toInt < 4) ∧ 0 ≤ b.toInt ∧ b.toInt < 12) (h0 : (0 : Int) ≤ v.toInt) : vp_in v 48 := by
  rw [Int32.lt_iff_toInt_lt, z12 h.1 (by omega)] at hn; rw [vp_in_iff]; omega
theorem z_hx {a b : Int32} (h : (0 ≤ a.toInt ∧ a.toInt < 4) ∧ 0 ≤ b.toInt ∧ b.toInt < 12) : -(2 ^ 30) < b.toInt := by omega
theorem z_dns {C v : Int32} (hn : ¬ v < C) (hC : -(2 ^ 30) < C.toInt) (h : v.toInt ≤ 11) : (v + (-1)).toInt ≤ 11 := by rw [z_m1 hn hC]; omega
theorem z_nd {a b v : Int32} (h : (0 ≤ a.toInt ∧ a.toInt < 4) ∧ 0 ≤ b.toInt ∧ b.toInt < 12) (hn : ¬ v < b) (hv : v.toInt ≤ 11) : vp_in (12 * a + v) 48 := by
  rw [Int32.lt_iff_toInt_lt] at hn; exact z_c48b ⟨h.1, by omega, by omega⟩
theorem z_hd {a v : Int32} (hn : ¬ (12 * a + 12) ≤ v) (h : 0 ≤ a.toInt ∧ a.toInt < 4) (h0 : (0 : Int) ≤ v.toInt) : vp_in v 48 := by
  have e := z12 h (b := 12) (by decide)
  simp only [Int32.reduceToInt] at e
  rw [Int32.le_iff_toInt_le, e] at hn; rw [vp_in_iff]; omega
theorem z_48to53 {v : Int32} (h : vp_in v 48) : vp_in v 53 := by rw [vp_in_iff] at h ⊢; omega
theorem z_cf {a v : Int32} (hn : ¬ (40 * a + 40) ≤ v) (h : 0 ≤ a.toInt ∧ a.toInt < 3) (h0 : (0 : Int) ≤ v.toInt) : vp_in v 120 := by
  have e := z40 h (b := 40) (by decide)
  simp only [Int32.reduceToInt] at e
  rw [Int32.le_iff_toInt_le, e] at hn; rw [vp_in_iff]; omega
theorem z_tk1 {a v : Int32} (hn : ¬ (40 * a + 40) ≤ v) (h : 0 ≤ a.toInt ∧ a.toInt < 3) (h0 : (0 : Int) ≤ v.toInt) : -1 ≤ v.toInt ∧ v.toInt < 120 := by
  have := vp_in_iff.mp (z_cf hn h h0); omega
theorem z_nn {p : Int32} (h : -1 ≤ p.toInt ∧ p.toInt < 120) (hn : ¬ p = -1) : vp_in p 120 := by
  have := z_ne h.1 hn; rw [vp_in_iff]; omega
theorem z_lt {C v : Int32} {n : Nat} (hn : ¬ C ≤ v) (hC : C.toInt = n) (h0 : (0 : Int) ≤ v.toInt) : vp_in v n := by
  rw [Int32.le_iff_toInt_le] at hn; rw [vp_in_iff]; omega
theorem z_4 {v : Int32} (hn : ¬ 4 ≤ v) (h0 : (0 : Int) ≤ v.toInt) : 0 ≤ v.toInt ∧ v.toInt < 4 := by
  rw [Int32.le_iff_toInt_le] at hn; simp only [Int32.reduceToInt] at hn; omega
theorem z_v4 {v : Int32} (h : 0 ≤ v.toInt ∧ v.toInt < 4) : vp_in v 4 := by rw [vp_in_iff]; omega
theorem z_lt2 {v : Int32} (hn : ¬ 2 ≤ v) : v.toInt < 2 := by
  rw [Int32.le_iff_toInt_le] at hn; simp only [Int32.reduceToInt] at hn; omega
theorem z_ns {a b v : Int32} (hn : ¬ (a + b) ≤ v) (h : 0 ≤ a.toInt ∧ 0 ≤ b.toInt ∧ a.toInt + b.toInt ≤ 53) (h0 : (0 : Int) ≤ v.toInt) : vp_in v 53 := by
  rw [Int32.le_iff_toInt_le, z_addI (by omega) (by omega)] at hn; rw [vp_in_iff]; omega
theorem z_lt48 {p : Int32} (h : vp_in p 53) (hn : ¬ 48 ≤ p) : vp_in p 48 := by
  rw [Int32.le_iff_toInt_le] at hn; simp only [Int32.reduceToInt] at hn; rw [vp_in_iff] at h ⊢; omega
theorem z_so {p : Int32} (h : vp_in p 53) (h1 : 48 ≤ p) (h2 : ¬ p = 52) : 0 ≤ (12 * (p - 48)).toInt ∧ 0 ≤ (12 : Int32).toInt ∧ (12 * (p - 48)).toInt + (12 : Int32).toInt ≤ 53 := by
  rw [Int32.le_iff_toInt_le] at h1; simp only [Int32.reduceToInt] at h1
  rw [vp_in_iff] at h
  have h3 : p.toInt ≠ 52 := fun e => h2 (Int32.toInt_inj.mp (by simpa using e))
  have e : (p - 48).toInt = p.toInt - 48 := by
    rw [Int32.toInt_sub, Int.bmod_eq_of_le] <;> simp <;> omega
  have e2 := z12' (a := p - 48) (by rw [e]; omega)
  rw [e2, e]; simp only [Int32.reduceToInt]; omega
theorem z_cp1 {p s : Int32} (h : -1 ≤ p.toInt ∧ p.toInt < 120) (hn : ¬ p = -1) (hs : 0 ≤ s.toInt ∧ s.toInt < 2) : vp_in (2 * p + 1 - s) 240 := by
  have h0 := z_ne h.1 hn
  have e := z2 (a := p) (b := 1) ⟨h0, h.2⟩ (by decide)
  simp only [Int32.reduceToInt] at e
  have e2 : (2 * p + 1 - s).toInt = (2 * p + 1).toInt - s.toInt := by
    rw [Int32.toInt_sub, Int.bmod_eq_of_le] <;> omega
  rw [vp_in_iff, e2, e]; omega
theorem z_l12 {v : Int32} (h : vp_in v 48) : (0 ≤ (v / 12).toInt ∧ (v / 12).toInt < 4) ∧ 0 ≤ (v - v / 12 * 12).toInt ∧ (v - v / 12 * 12).toInt < 12 := by
  rw [vp_in_iff] at h
  rw [z_mod h.1 (by decide), z_divI h.1 (by decide)]; simp only [Int32.reduceToInt]; omega
/-- taking a cell: the best mirror among those looked at -/
def zTk (x best m : Int32) : Prop := (0 ≤ m.toInt ∧ m.toInt ≤ 3) ∧ (-1 ≤ best.toInt ∧ best.toInt < 3) ∧ (best.toInt = -1 → m.toInt = 0 ∨ (m.toInt = 1 ∧ x.toInt = 0))
