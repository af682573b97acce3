/-! ===== PURE: what holds asks ===== -/
section
/-- a place as it is told -/
def plc (x : Int32) : Int32 := if x = -1 then -9999004 else nI (100 * (x.toNatClampNeg / 40) + x.toNatClampNeg % 40)
def cpl (P : Mem) (p : Nat) : Nat := if P 11 p = -1 then 0 else if P 12 p = -1 then 1 else 2
def hs (P : Mem) (f : Nat) : Nat → Nat
  | 0 => 0
  | b + 1 => if hs P f b = 0 ∧ P 11 (12 * f + b) = -1 then 0 else 1
def cnt (P : Mem) (f : Nat) : Nat → Nat
  | 0 => 0
  | b + 1 => cnt P f b + cpl P (12 * f + b)
def mn (P : Mem) : Nat → Nat
  | 0 => 0
  | f + 1 => mn P f + cnt P f 12 + 2 * hs P f 12
def an (P : Mem) : Nat → Nat
  | 0 => 0
  | f + 1 => if an P f = 0 ∧ hs P f 12 = 0 then 0 else 1
/-- the pointers in the order in which holds comes to them -/
def po (t : Nat) : Nat := if t = 0 then 52 else if (t - 1) % 13 < 12 then 12 * ((t - 1) / 13) + (t - 1) % 13 else 48 + (t - 1) / 13
def ow (x : Int32) (c : Nat → Int32) : Nat → Int32 := if x = -1 then c else nt c (x.toNatClampNeg / 40) (x.toNatClampNeg % 40)
def zl (c : Nat → Int32) (i : Nat) : Nat → Int32 := fun j => if j < 64 * i then 0 else c j
def cs (P : Mem) (c : Nat → Int32) : Nat → Nat → Int32
  | 0 => zl c 3
  | t + 1 => ow (P 12 (po t)) (ow (P 11 (po t)) (cs P c t))
/-- a place that may be noted: none, or a used cell that is not noted yet -/
def pOK (P : Mem) (c : Nat → Int32) (x : Int32) : Prop := x = -1 ∨ ∃ d : Nat, d < 120 ∧ x = nI d ∧ P 6 d ≠ 0 ∧ c (64 * (d / 40) + d % 40) = 0
theorem hs_le (P : Mem) (f b : Nat) : hs P f b ≤ 1 := by cases b <;> unfold hs <;> (try split) <;> omega
theorem an_le (P : Mem) (f : Nat) : an P f ≤ 1 := by cases f <;> unfold an <;> (try split) <;> omega
theorem cpl_le (P : Mem) (p : Nat) : cpl P p ≤ 2 := by unfold cpl; split <;> (try split) <;> omega
theorem cnt_le (P : Mem) (f : Nat) : ∀ b, cnt P f b ≤ 2 * b := by
  intro b
  induction b with
  | zero => exact Nat.le_refl _
  | succ b ih => have := cpl_le P (12 * f + b); unfold cnt; omega
theorem mn_le (P : Mem) : ∀ f, mn P f ≤ 26 * f := by
  intro f
  induction f with
  | zero => exact Nat.le_refl _
  | succ f ih => have := cnt_le P f 12; have := hs_le P f 12; unfold mn; omega
theorem v_told {d : Nat} (hd : d < 120) : f_X4_told (nI d) = .inl (nI (100 * (d / 40) + d % 40)) := by
  unfold f_X4_told f_X4_mirrorOf
  rw [if_pos (q_isPlaceNumber.mpr (nI_r hd (by decide))), show (40 : Int32) = nI 40 by decide, show (100 : Int32) = nI 100 by decide, pk_rem (by omega) (by decide) (by decide), pk_div (by omega) (by decide) (by decide), pk_mul, nI_add]
theorem v_plc {x : Int32} (h : x = -1 ∨ ∃ d : Nat, d < 120 ∧ x = nI d) : eI (f_X4_told x) = plc x := by
  unfold plc
  rcases h with rfl | ⟨d, hd, rfl⟩
  · rw [if_pos rfl, x_told0]; exact eK_NSE
  · rw [if_neg (nI_neg hd), v_told hd, nI_clamp (by omega)]; rfl
theorem plc_ge {x : Int32} (h : x = -1 ∨ ∃ d : Nat, d < 120 ∧ x = nI d) : plc x < 0 ↔ x = -1 := by
  unfold plc
  rcases h with rfl | ⟨d, hd, rfl⟩
  · rw [if_pos rfl]; exact ⟨fun _ => rfl, fun _ => by decide⟩
  · rw [if_neg (nI_neg hd)]
    exact ⟨fun q => absurd q (nI_pos (by rw [nI_clamp (by omega)]; omega)), fun q => absurd q (nI_neg hd)⟩
theorem y_pt3 {f b : Nat} (hf : f < 4) (hb : b < 12) : 0 ≤ (nI (12 * f + b)).toInt ∧ (nI (12 * f + b)).toInt < 53 := nI_r (N := 53) (by omega) (by decide)
theorem q_bf {f b : Nat} (hf : f < 4) (hb : b < 12) : f_X4_isBlockOfFile (nI f) (nI b) = true := q_isBlockOfFile.mpr ⟨nI_r (N := 4) hf (by decide), nI_r (N := 12) hb (by decide)⟩
theorem v_places {f b : Nat} {P : Mem} (hf : f < 4) (hb : b < 12) : f_X4_places (nI f) (nI b) P = .inl (nI (cpl P (12 * f + b))) := by
  unfold f_X4_places f_X3_countPlaces f_X3_isMissing
  rw [if_pos (q_bf hf hb), y_bpn, u_pl0 (y_pt3 hf hb), u_pl1 (y_pt3 hf hb), nI_clamp (by omega)]
  unfold cpl
  by_cases h1 : P 11 (12 * f + b) = -1
  · simp [h1, nI]
  · by_cases h2 : P 12 (12 * f + b) = -1 <;> simp [h1, h2, nI]
theorem v_birth {f b : Nat} {P : Mem} (hf : f < 4) (hb : b < 12) : f_X4_birth (nI f) (nI b) P = .inl (P 14 (12 * f + b)) := by
  unfold f_X4_birth f_X3_birthOf
  rw [if_pos (q_bf hf hb), y_bpn, if_pos (q_isPointer.mpr (y_pt3 hf hb)), nI_clamp (by omega)]
theorem v_place0 {f b : Nat} {P : Mem} (hf : f < 4) (hb : b < 12) (h : P 11 (12 * f + b) = -1 ∨ ∃ d : Nat, d < 120 ∧ P 11 (12 * f + b) = nI d) : eI (f_X4_place (nI f) (nI b) (nI 0) P) = plc (P 11 (12 * f + b)) := by
  unfold f_X4_place
  rw [if_pos (q_bf hf hb), y_bpn, show nI 0 = 0 by decide, u_pl0 (y_pt3 hf hb), nI_clamp (by omega), v_plc h]
theorem v_place1 {f b : Nat} {P : Mem} (hf : f < 4) (hb : b < 12) (h : P 12 (12 * f + b) = -1 ∨ ∃ d : Nat, d < 120 ∧ P 12 (12 * f + b) = nI d) : eI (f_X4_place (nI f) (nI b) (nI 1) P) = plc (P 12 (12 * f + b)) := by
  unfold f_X4_place
  rw [if_pos (q_bf hf hb), y_bpn, show nI 1 = 1 by decide, u_pl1 (y_pt3 hf hb), nI_clamp (by omega), v_plc h]
theorem y_fp3 {f : Nat} (hf : f < 4) : 0 ≤ (nI (48 + f)).toInt ∧ (nI (48 + f)).toInt < 53 := nI_r (N := 53) (by omega) (by decide)
theorem v_node0 {f : Nat} {P : Mem} (hf : f < 4) (h : P 11 (48 + f) = -1 ∨ ∃ d : Nat, d < 120 ∧ P 11 (48 + f) = nI d) : eI (f_X4_nodePlace (nI f) (nI 0) P) = plc (P 11 (48 + f)) := by
  unfold f_X4_nodePlace
  rw [if_pos (q_isFile.mpr (nI_r (N := 4) hf (by decide))), y_fpn, show nI 0 = 0 by decide, u_pl0 (y_fp3 hf), nI_clamp (by omega), v_plc h]
theorem v_node1 {f : Nat} {P : Mem} (hf : f < 4) (h : P 12 (48 + f) = -1 ∨ ∃ d : Nat, d < 120 ∧ P 12 (48 + f) = nI d) : eI (f_X4_nodePlace (nI f) (nI 1) P) = plc (P 12 (48 + f)) := by
  unfold f_X4_nodePlace
  rw [if_pos (q_isFile.mpr (nI_r (N := 4) hf (by decide))), y_fpn, show nI 1 = 1 by decide, u_pl1 (y_fp3 hf), nI_clamp (by omega), v_plc h]
theorem v_root0 {P : Mem} (h : P 11 52 = -1 ∨ ∃ d : Nat, d < 120 ∧ P 11 52 = nI d) : eI (f_X4_rootPlace (nI 0) P) = plc (P 11 52) := by
  unfold f_X4_rootPlace
  rw [show nI 0 = 0 by decide, u_pl0 y_52, show (52 : Int32).toNatClampNeg = 52 from rfl, v_plc h]
theorem v_root1 {P : Mem} (h : P 12 52 = -1 ∨ ∃ d : Nat, d < 120 ∧ P 12 52 = nI d) : eI (f_X4_rootPlace (nI 1) P) = plc (P 12 52) := by
  unfold f_X4_rootPlace
  rw [show nI 1 = 1 by decide, u_pl1 y_52, show (52 : Int32).toNatClampNeg = 52 from rfl, v_plc h]
theorem v_free {m : Nat} {P : Mem} (hm : m < 3) : f_X4_free (nI m) P = .inl (nI (cn (P 6) (40 * m) 40)) := by
  unfold f_X4_free
  rw [if_pos (q_isMirror.mpr (nI_r (N := 3) hm (by decide)))]
  congr 1
  have e := u_cf (a := nI m) (M := P) (nI_r (N := 3) hm (by decide))
  rw [nI_clamp (by omega)] at e
  have hl := cn_le (P 6) (40 * m) 40
  exact Int32.toInt_inj.mp (by rw [e, nI_toInt (by omega)])
/-- what holds finds -/
def HF (P : Mem) (l h : Nat → Int32) : Prop :=
  (∀ k, k < 48 → (0 < h k ↔ P 11 k ≠ -1)) ∧ (∀ k, k < 48 → (0 < P 14 k ↔ P 11 k ≠ -1) ∧ ¬ P 3 1 ≤ P 14 k) ∧
  (∀ f b, f < 4 → b < 12 → (0 < l (12 * f + b) → eI (f_X4_nextData (nI f) (nI b) P) = nI b ∧ ¬ eI (f_X4_nextHole (nI f) (nI b) P) ≤ nI b) ∧ (¬ 0 < l (12 * f + b) → eI (f_X4_nextHole (nI f) (nI b) P) = nI b ∧ eI (f_X4_nextData (nI f) (nI b) P) ≠ nI b)) ∧
  (∀ f, f < 4 → (hs P f 12 ≠ 0 ↔ P 12 (48 + f) ≠ -1)) ∧ (an P 4 ≠ 0 ↔ P 11 52 ≠ -1) ∧
  (∀ c t, t < 53 → pOK P (cs P c t) (P 11 (po t)) ∧ pOK P (ow (P 11 (po t)) (cs P c t)) (P 12 (po t))) ∧
  (mn P 4 + 2 * an P 4 ≤ 120 ∧ cn (P 6) 0 40 + cn (P 6) 40 40 + cn (P 6) 80 40 = 120 - (mn P 4 + 2 * an P 4))
theorem pOK_d {P : Mem} {c : Nat → Int32} {x : Int32} (h : pOK P c x) : x = -1 ∨ ∃ d : Nat, d < 120 ∧ x = nI d := h.elim Or.inl (fun ⟨d, hd, e, _⟩ => Or.inr ⟨d, hd, e⟩)
theorem po_b {f b : Nat} (hb : b < 12) : po (1 + 13 * f + b) = 12 * f + b := by unfold po; rw [if_neg (by omega), if_pos (by omega)]; omega
theorem po_f (f : Nat) : po (1 + 13 * f + 12) = 48 + f := by unfold po; rw [if_neg (by omega), if_neg (by omega)]; omega
theorem HF_pl {P : Mem} {l h : Nat → Int32} (H : HF P l h) {t : Nat} (ht : t < 53) : (P 11 (po t) = -1 ∨ ∃ d : Nat, d < 120 ∧ P 11 (po t) = nI d) ∧ (P 12 (po t) = -1 ∨ ∃ d : Nat, d < 120 ∧ P 12 (po t) = nI d) :=
  ⟨pOK_d (H.2.2.2.2.2.1 (fun _ => 0) t ht).1, pOK_d (H.2.2.2.2.2.1 (fun _ => 0) t ht).2⟩
/-- isOwn in the world of holds -/
def emO (k : Nat) : Nat := if k < 20 then k else 22
theorem emB_OH : emB emO shO shH = true := by decide +kernel
theorem om_e (P : Mem) (l h c : Nat → Int32) : zEm emO shO shH (xm P (f1 c)) (xm P (f3 l h c)) := zEm_of emB_OH (fun k hk => by
  have hk' : k < 21 := hk
  unfold emO
  by_cases e : k < 20
  · rw [if_pos e]; unfold xm; rw [if_pos e, if_pos e]
  · have e2 : k = 20 := by omega
    rw [if_neg e, e2]; rfl)
theorem om_o (P : Mem) (l h c c' : Nat → Int32) : ∀ j, (∀ (k : Nat) (x : ShE), shO[k]? = some x → emO k ≠ j) → xm P (f3 l h c') j = xm P (f3 l h c) j := zEm_ho (em := emO) (sh1 := shO) (fun j hj => by
  have h1 : ¬ j < 20 := fun q => hj j (show j < 21 by omega) (by unfold emO; rw [if_pos q])
  have h2 : j ≠ 22 := fun q => hj 20 (by decide) (by rw [q]; rfl)
  unfold xm
  rw [if_neg h1, if_neg h1]
  by_cases e0 : j - 20 = 0
  · rw [e0]; rfl
  · by_cases e1 : j - 20 = 1
    · rw [e1]; rfl
    · obtain ⟨i, hi⟩ : ∃ i, j - 20 = i + 3 := ⟨j - 23, by omega⟩
      rw [hi]; rfl)
theorem k_own (q : ZQ) (hq : q.1.stackTraces = false) {P : Mem} {l h c : Nat → Int32} {x : Int32} (hx : pOK P c x) : Zc (zgH q) mL_isOwn 1 6 [.inr 0, .inr 22, .inl (plc x)] (xm P (f3 l h c)) (.inl (some 1), xm P (f3 l h (ow x c))) := by
  unfold ow plc
  rcases hx with rfl | ⟨d, hd, rfl, hu, h0⟩
  · rw [if_pos rfl, if_pos rfl]
    exact Zc.emb (em := emO) (k_isOwn0 (q.1, q.2.1, q.2.2.1, fun k => q.2.2.2 (emO k)) hq P c) (om_e P l h c) (om_e P l h c) (om_o P l h c c)
  · rw [if_neg (nI_neg hd), if_neg (nI_neg hd), nI_clamp (by omega)]
    exact Zc.emb (em := emO) (k_isOwn (q.1, q.2.1, q.2.2.1, fun k => q.2.2.2 (emO k)) hq P c (m := d / 40) (b := d % 40) (by omega) (by omega) (by rw [show 40 * (d / 40) + d % 40 = d by omega]; exact hu) h0) (om_e P l h c) (om_e P l h _) (om_o P l h c _)
end
