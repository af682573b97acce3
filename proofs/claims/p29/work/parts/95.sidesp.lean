/-! ===== PURE: a pool of which one side of each mirror is spoilt ===== -/
section
/-- a new pool -/
def P0 : Mem := fun k => match k with
  | 3 => fun j => if j = 1 then 1 else 0
  | 5 => fun _ => 1
  | 11 => fun _ => -1
  | 12 => fun _ => -1
  | 15 => fun _ => -1
  | _ => fun _ => 0
def wP : Nat → Mem
  | 0 => P0
  | k + 1 => (f_X4_write (nI (k % 4)) (nI (k / 4)) (nI (100 + k)) (wP k)).2
def P1 : Mem := (f_X4_sync (wP 20)).2
/-- which side of the mirror m is spoilt -/
def sb (x m : Nat) : Nat := x / 2 ^ m % 2
def sP (x : Nat) : Nat → Mem
  | 0 => P1
  | i + 1 => (f_X4_spoil (nI (i / 40)) (nI (sb x (i / 40))) (nI (i % 40)) (sP x i)).2
def sQ (x : Nat) : Nat → Mem
  | 0 => sP x 120
  | k + 1 => (f_X4_read (nI (k % 4)) (nI (k / 4)) (sQ x k)).2
def usd (c : Nat) : Bool := ! decide (P1 6 c = 0)
theorem P0_zI : zI 1 P0 := by
  refine ⟨fun k _ => ⟨Or.inl rfl, Or.inl rfl⟩, fun c _ => Or.inl rfl, fun k l _ _ => ⟨fun _ ne => absurd rfl ne, fun _ ne => absurd rfl ne, fun _ => rfl⟩, fun k _ ne => absurd rfl ne, fun f b _ _ ne => absurd rfl ne, fun f _ ne => absurd rfl ne, ⟨fun _ _ _ => rfl, fun k _ ne => absurd rfl ne, fun f _ ne => absurd rfl ne⟩, fun m _ => Or.inl rfl, fun k _ => ?_, ⟨by decide, by decide⟩, fun k _ => ?_, fun k _ => Or.inl rfl⟩
  · show (0 : Int) ≤ (0 : Int32).toInt; decide
  · show (-1 : Int) ≤ (-1 : Int32).toInt; decide
theorem P0_zJ : zJ P0 := ⟨fun k _ ne => absurd rfl ne, fun k _ ne => absurd rfl ne, fun f _ ne => absurd rfl ne, fun ne => absurd rfl ne, fun k _ => by show (0 : Int) ≤ (0 : Int32).toInt; decide⟩
theorem P0_gdd : gdd 1 P0 (fun _ => 0) (fun _ => 0) := ⟨P0_zI, P0_zJ, fun _ _ => rfl, fun _ _ => rfl⟩
/-- reckoned -/
def sdK : Bool := decide ((f_X4_sync (wP 20)).1 = .inl 30) && (List.range 20).all (fun k => decide ((f_X4_write (nI (k % 4)) (nI (k / 4)) (nI (100 + k)) (wP k)).1 = .inl 0)) && (List.range 240).all (fun i => decide (P1 7 i = 0)) && (List.range 6).all (fun k => decide (P1 8 k = 0)) && decide (ctb usd 120 = 30) && (List.range 20).all (fun k => decide (P1 10 (12 * (k % 4) + k / 4) = nI (100 + k))) && (List.range 48).all (fun k => decide (P1 15 k = -1)) && decide (P1 0 5 = 0)
theorem sdK_t : sdK = true := by decide +kernel
theorem all_r {f : Nat → Bool} {n : Nat} (h : (List.range n).all f = true) : ∀ i, i < n → f i = true := fun i hi => List.all_eq_true.mp h i (List.mem_range.mpr hi)
theorem sd_all : (f_X4_sync (wP 20)).1 = .inl 30 ∧ (∀ k, k < 20 → (f_X4_write (nI (k % 4)) (nI (k / 4)) (nI (100 + k)) (wP k)).1 = .inl 0) ∧ (∀ i, i < 240 → P1 7 i = 0) ∧ (∀ k, k < 6 → P1 8 k = 0) ∧ ctb usd 120 = 30 ∧ (∀ k, k < 20 → P1 10 (12 * (k % 4) + k / 4) = nI (100 + k)) ∧ (∀ k, k < 48 → P1 15 k = -1) ∧ P1 0 5 = 0 := by
  have h := sdK_t
  unfold sdK at h
  simp only [Bool.and_eq_true] at h
  obtain ⟨⟨⟨⟨⟨⟨⟨h1, h2⟩, h3⟩, h4⟩, h5⟩, h6⟩, h7⟩, h8⟩ := h
  exact ⟨of_decide_eq_true h1, fun k hk => of_decide_eq_true (all_r h2 k hk), fun k hk => of_decide_eq_true (all_r h3 k hk), fun k hk => of_decide_eq_true (all_r h4 k hk), of_decide_eq_true h5, fun k hk => of_decide_eq_true (all_r h6 k hk), fun k hk => of_decide_eq_true (all_r h7 k hk), of_decide_eq_true h8⟩
theorem wP_zI : ∀ k, zI 1 (wP k) := by
  intro k
  induction k with
  | zero => exact P0_zI
  | succ k ih => exact g_write ih _ _ _
theorem P1_zI : zI 2 P1 := g_sync (n := 1) (wP_zI 20) (by decide)
theorem sb_lt (x m : Nat) : sb x m < 2 := Nat.mod_lt _ (by decide)
theorem y_spoil {m s c : Nat} {M : Mem} (hm : m < 3) (hs : s < 2) (hc : c < 40) (h8 : M 8 (2 * m + s) = 0) (h6 : M 6 (40 * m + c) ≠ 0) (h7 : M 7 (120 * s + (40 * m + c)) = 0) : f_X4_spoil (nI m) (nI s) (nI c) M = (.inl true, mup M 7 (120 * s + (40 * m + c)) 1) := by
  have hcr := nI_r (N := 120) (show 40 * m + c < 120 by omega) (by decide)
  have e1 := u_hasSp (M := M) hcr (nI_r (N := 2) hs (by decide))
  have e3 := u_mark (M := M) (b := true) (nI_s hs) hcr
  rw [nI_clamp (by omega), nI_clamp (by omega)] at e1 e3
  unfold f_X4_spoil
  rw [if_pos (q_isSideOfMirror.mpr ⟨nI_r (N := 3) hm (by decide), nI_r (N := 2) hs (by decide)⟩), if_pos (q_isCell.mpr (nI_r (N := 40) hc (by decide))), y_pn hm hc, y_used (by omega), y_online hm hs, e1, e3]
  simp [h8, h6, h7, zlet, bI]
/-- the marks after i cells -/
theorem sP_c (x : Nat) : ∀ i, i ≤ 120 → (∀ j, j ≠ 7 → sP x i j = P1 j) ∧ ∀ s c, s < 2 → c < 120 → sP x i 7 (120 * s + c) = if s = sb x (c / 40) ∧ c < i ∧ usd c = true then 1 else 0 := by
  intro i
  induction i with
  | zero =>
    intro _
    refine ⟨fun _ _ => rfl, fun s c hs hc => ?_⟩
    rw [if_neg (by omega)]
    exact sd_all.2.2.1 _ (by omega)
  | succ i ih =>
    intro hi
    obtain ⟨a1, a2⟩ := ih (by omega)
    have hsb := sb_lt x (i / 40)
    have ei : 40 * (i / 40) + i % 40 = i := by omega
    have e : sP x (i + 1) = (f_X4_spoil (nI (i / 40)) (nI (sb x (i / 40))) (nI (i % 40)) (sP x i)).2 := rfl
    rw [e]
    by_cases hu : P1 6 i = 0
    · rw [x_spoilF (m := i / 40) (c := i % 40) (by omega) hsb (by omega) (by rw [ei, a1 6 (by decide)]; exact hu)]
      refine ⟨a1, fun s c hs hc => ?_⟩
      show sP x i 7 (120 * s + c) = _
      rw [a2 s c hs hc]
      by_cases q : c = i
      · subst q
        have : usd c = false := by unfold usd; rw [hu]; rfl
        rw [if_neg (by omega), if_neg (by rw [this]; exact fun z => absurd z.2.2 (by decide))]
      · by_cases q2 : s = sb x (c / 40) ∧ c < i ∧ usd c = true
        · rw [if_pos q2, if_pos ⟨q2.1, by omega, q2.2.2⟩]
        · rw [if_neg q2, if_neg (fun z => q2 ⟨z.1, by omega, z.2.2⟩)]
    · have hus : usd i = true := by unfold usd; simp [hu]
      have h7 : sP x i 7 (120 * sb x (i / 40) + i) = 0 := by rw [a2 _ i hsb (by omega), if_neg (by omega)]
      rw [y_spoil (m := i / 40) (c := i % 40) (by omega) hsb (by omega) (by rw [a1 8 (by decide)]; exact sd_all.2.2.2.1 _ (by omega)) (by rw [ei, a1 6 (by decide)]; exact hu) (by rw [ei]; exact h7), ei]
      refine ⟨fun j hj => (mup_ne hj).trans (a1 j hj), fun s c hs hc => ?_⟩
      show mup (sP x i) 7 (120 * sb x (i / 40) + i) 1 7 (120 * s + c) = _
      unfold mup
      rw [mset_eq]
      by_cases q : c = i
      · subst q
        by_cases q2 : s = sb x (c / 40)
        · rw [if_pos ⟨q2, by omega, hus⟩, q2, pk_us]
        · rw [if_neg (fun z => q2 z.1), pk_un (by omega), a2 s c hs hc, if_neg (by omega)]
      · rw [pk_un (by omega), a2 s c hs hc]
        by_cases q2 : s = sb x (c / 40) ∧ c < i ∧ usd c = true
        · rw [if_pos q2, if_pos ⟨q2.1, by omega, q2.2.2⟩]
        · rw [if_neg q2, if_neg (fun z => q2 ⟨z.1, by omega, z.2.2⟩)]
/-- what spoils answers -/
theorem sP_a (x : Nat) {i : Nat} (hi : i < 120) : eB (f_X4_spoil (nI (i / 40)) (nI (sb x (i / 40))) (nI (i % 40)) (sP x i)).1 = if usd i = true then 1 else -9999003 := by
  obtain ⟨a1, a2⟩ := sP_c x i (by omega)
  have hsb := sb_lt x (i / 40)
  have ei : 40 * (i / 40) + i % 40 = i := by omega
  by_cases hu : P1 6 i = 0
  · rw [x_spoilF (m := i / 40) (c := i % 40) (by omega) hsb (by omega) (by rw [ei, a1 6 (by decide)]; exact hu)]
    have : usd i = false := by unfold usd; rw [hu]; rfl
    rw [this]
    exact eK_ISE
  · have hus : usd i = true := by unfold usd; simp [hu]
    have h7 : sP x i 7 (120 * sb x (i / 40) + i) = 0 := by rw [a2 _ i hsb hi, if_neg (by omega)]
    rw [y_spoil (m := i / 40) (c := i % 40) (by omega) hsb (by omega) (by rw [a1 8 (by decide)]; exact sd_all.2.2.2.1 _ (by omega)) (by rw [ei, a1 6 (by decide)]; exact hu) (by rw [ei]; exact h7), hus]
    rfl
theorem sP_zI (x : Nat) : zI 2 (sP x 120) := by
  have h := P1_zI
  obtain ⟨a1, a2⟩ := sP_c x 120 (Nat.le_refl _)
  exact zI_sK h (fun j hj => a1 j hj)
theorem sP_fe (x : Nat) {q : Nat} (hq : q < 53) (hp : P1 11 q ≠ -1) : fe (sP x 120) q = true := by
  obtain ⟨a1, a2⟩ := sP_c x 120 (Nat.le_refl _)
  have k := P1_zI.1 q hq
  rcases cU_c k.1 with e | ⟨c, hc, e, hu⟩
  · exact absurd e hp
  · have hsb := sb_lt x (c / 40)
    have hu' : sP x 120 6 c = 1 := by rw [a1 6 (by decide)]; exact hu
    have g : ∀ s, s < 2 → s ≠ sb x (c / 40) → gd (sP x 120) (sP x 120 11 q) s = true := by
      intro s hs hne
      rw [a1 11 (by decide), e, gd_c hs hc hu', a1 8 (by decide), sd_all.2.2.2.1 _ (by omega), a2 s c hs hc, if_neg (fun z => hne z.1)]
      rfl
    rw [u_fe hq]
    by_cases z : sb x (c / 40) = 0
    · rw [g 1 (by decide) (by omega)]; simp
    · rw [g 0 (by decide) (by omega)]; simp
theorem ctb_sN (f : Nat → Bool) : ∀ n, ctb f n = sN (fun i => if f i = true then 1 else 0) n := by
  intro n
  induction n with
  | zero => rfl
  | succ n ih => unfold ctb sN; rw [ih]
theorem sP_spc (x : Nat) : spc (sP x 120) = 30 := by
  obtain ⟨a1, a2⟩ := sP_c x 120 (Nat.le_refl _)
  unfold spc
  rw [show (240 : Nat) = 120 + 120 from rfl, ct_app, ct2, ← sd_all.2.2.2.2.1, ctb_sN usd]
  refine sN_congr 120 (fun c hc => ?_)
  have hsb := sb_lt x (c / 40)
  have b0 := a2 0 c (by decide) hc
  have b1 := a2 1 c (by decide) hc
  rw [show 120 * 0 + c = c by omega] at b0
  rw [show 120 * 1 + c = 120 + c by omega] at b1
  have h6 : ∀ d, sP x 120 6 d = P1 6 d := fun d => by rw [a1 6 (by decide)]
  unfold spf
  rw [b0, b1, h6, h6, show (120 + c) % 120 = c by omega, show c % 120 = c by omega]
  have eu : decide (P1 6 c = 0) = ! usd c := by unfold usd; simp
  rw [eu]
  cases hu : usd c with
  | false => simp
  | true =>
    rcases (by omega : sb x (c / 40) = 0 ∨ sb x (c / 40) = 1) with z | z
    · rw [z]; simp [hc]
    · rw [z]; simp [hc]
/-- what the reads keep -/
theorem sQ_k (x : Nat) : ∀ k, k ≤ 20 → (zI 2 (sQ x k) ∧ ST P1 (sQ x k) ∧ sQ x k 8 = P1 8) ∧ (∀ q, q < 53 → fe (sQ x k) q = fe (sP x 120) q) ∧ sQ x k 0 5 + nI (spc (sQ x k)) = nI 30 := by
  intro k
  induction k with
  | zero =>
    intro _
    obtain ⟨a1, a2⟩ := sP_c x 120 (Nat.le_refl _)
    refine ⟨⟨sP_zI x, fun j _ h7 _ _ => a1 j h7, a1 8 (by decide)⟩, fun _ _ => rfl, ?_⟩
    show sP x 120 0 5 + nI (spc (sP x 120)) = nI 30
    rw [sP_spc, a1 0 (by decide), sd_all.2.2.2.2.2.2.2]
    decide
  | succ k ih =>
    intro hk
    obtain ⟨⟨i1, i2, i8⟩, i3, i4⟩ := ih (by omega)
    have e : sQ x (k + 1) = (f_X4_read (nI (k % 4)) (nI (k / 4)) (sQ x k)).2 := rfl
    rw [e]
    refine ⟨⟨g_read i1 _ _, i2.trans (st_read (by omega) (by omega) i1), ?_⟩, fun q hq => ?_, ?_⟩
    · rcases read_c (f := k % 4) (b := k / 4) (by omega) (by omega) i1 with ⟨_, e⟩ | ⟨_, _, e⟩ | ⟨_, _, v, A, hS, e⟩
      · rw [e]; exact i8
      · rw [e]; exact i8
      · rw [e]; show mup A 0 5 (sQ x k 0 5 + v) 8 = P1 8; rw [mup_ne (by decide), hS.1 8 (by decide)]; exact i8
    · rw [← i3 q hq]
      rcases read_c (f := k % 4) (b := k / 4) (by omega) (by omega) i1 with ⟨_, e⟩ | ⟨_, _, e⟩ | ⟨_, _, v, A, hS, e⟩
      · rw [e]
      · rw [e]
      · rw [e]; show fe (mup A 0 5 (sQ x k 0 5 + v)) q = fe (sQ x k) q; rw [fe_0 hq, hS.2.1 q hq]
    · rcases read_c (f := k % 4) (b := k / 4) (by omega) (by omega) i1 with ⟨_, e⟩ | ⟨_, _, e⟩ | ⟨_, _, v, A, hS, e⟩
      · rw [e]; exact i4
      · rw [e]; exact i4
      · rw [e]
        show mup A 0 5 (sQ x k 0 5 + v) 0 5 + nI (spc (mup A 0 5 (sQ x k 0 5 + v))) = nI 30
        rw [spc_0]
        have e0 : mup A 0 5 (sQ x k 0 5 + v) 0 5 = sQ x k 0 5 + v := by unfold mup; rw [mset_eq, pk_us]
        have hvv : v + nI (spc A) = nI (spc (sQ x k)) := hS.2.2.2
        rw [e0, Int32.add_assoc, hvv, i4]
theorem sQ_un (x : Nat) {k q : Nat} (hk : k ≤ 20) (hq : q < 53) : ¬ un (sQ x k) q := by
  obtain ⟨⟨i1, i2, i8⟩, i3, i4⟩ := sQ_k x k hk
  intro u
  have h11 : sQ x k 11 = P1 11 := i2 11 (by decide) (by decide) (by decide) (by decide)
  have hp : P1 11 q ≠ -1 := by rw [← h11]; exact u.1
  have := u.2
  rw [i3 q hq, sP_fe x hq hp] at this
  cases this
theorem sQ_a (x : Nat) {k : Nat} (hk : k < 20) : (f_X4_read (nI (k % 4)) (nI (k / 4)) (sQ x k)).1 = .inl (nI (100 + k)) := by
  obtain ⟨⟨i1, i2, i8⟩, i3, i4⟩ := sQ_k x k (by omega)
  have h15 : sQ x k 15 = P1 15 := i2 15 (by decide) (by decide) (by decide) (by decide)
  have h10 : sQ x k 10 = P1 10 := i2 10 (by decide) (by decide) (by decide) (by decide)
  rcases read_c (f := k % 4) (b := k / 4) (by omega) (by omega) i1 with ⟨a, e⟩ | ⟨_, u, e⟩ | ⟨_, _, v, A, hS, e⟩
  · rw [h15] at a
    exact absurd (sd_all.2.2.2.2.2.2.1 _ (by omega)) a
  · rcases u with u | u | u
    · exact absurd u (sQ_un x (by omega) (by decide))
    · exact absurd u (sQ_un x (by omega) (by omega))
    · exact absurd u (sQ_un x (by omega) (by omega))
  · rw [e, h10, sd_all.2.2.2.2.2.1 k hk]
theorem lost_P1 {M : Mem} (h11 : M 11 = P1 11) (hf : ∀ q, q < 53 → P1 11 q ≠ -1 → fe M q = true) : f_X4_lost M = 0 := by
  refine lost_0 (fun k hk => ?_)
  unfold lo
  by_cases e : M 11 k = -1
  · simp [e]
  · rw [h11] at e
    have ek : 12 * (k / 12) + k % 12 = k := by omega
    have h1 := P1_zI.2.2.2.2.1 (k / 12) (k % 12) (by omega) (by omega) (by rw [ek]; exact e)
    have h2 := P1_zI.2.2.2.2.2.1 (k / 12) (by omega) h1
    rw [hf 52 (by decide) h2, hf (48 + k / 12) (by omega) h1, hf k (by omega) e]
    simp
theorem sP_lost (x : Nat) : f_X4_lost (sP x 120) = 0 := by
  obtain ⟨a1, a2⟩ := sP_c x 120 (Nat.le_refl _)
  exact lost_P1 (a1 11 (by decide)) (fun q hq hp => sP_fe x hq hp)
theorem sQ_scrub (x : Nat) : (f_X4_scrub (sQ x 20)).1 = 30 - sQ x 20 0 5 ∧ (f_X4_scrub (sQ x 20)).2 0 5 = 30 ∧ f_X4_lost (f_X4_scrub (sQ x 20)).2 = 0 := by
  obtain ⟨⟨i1, i2, i8⟩, i3, i4⟩ := sQ_k x 20 (Nat.le_refl _)
  obtain ⟨v, M1, e, hS, hc⟩ := scrub_SC i1
  have h11 : sQ x 20 11 = P1 11 := i2 11 (by decide) (by decide) (by decide) (by decide)
  have hfe : ∀ q, q < 53 → P1 11 q ≠ -1 → fe (sQ x 20) q = true := fun q hq hp => by rw [i3 q hq]; exact sP_fe x hq hp
  have hfe1 : ∀ q, q < 53 → P1 11 q ≠ -1 → fe M1 q = true := fun q hq hp => by rw [hS.2.1 q hq]; exact hfe q hq hp
  have hI1 : zI 2 M1 := zI_sK i1 hS.1
  have e11 : M1 11 = P1 11 := by rw [hS.1 11 (by decide), h11]
  have e8 : M1 8 = P1 8 := by rw [hS.1 8 (by decide), i8]
  -- all is clean
  have hcl : ∀ q, q < 53 → P1 11 q ≠ -1 → cl q M1 := by
    intro q hq hp
    have hroot : ∀ f, f < 4 → P1 11 (48 + f) ≠ -1 → P1 11 52 ≠ -1 := fun f hf h => P1_zI.2.2.2.2.2.1 f hf h
    by_cases q48 : q < 48
    · have ek : 12 * (q / 12) + q % 12 = q := by omega
      have h1 := P1_zI.2.2.2.2.1 (q / 12) (q % 12) (by omega) (by omega) (by rw [ek]; exact hp)
      have h2 := hroot (q / 12) (by omega) h1
      have g := ((hc (hfe 52 (by decide) h2)).2 (q / 12) (by omega) (hfe1 _ (by omega) h1)).2 (q % 12) (by omega)
      rw [ek] at g
      exact g (hfe1 q hq hp)
    · by_cases q52 : q < 52
      · have eq : q = 48 + (q - 48) := by omega
        rw [eq] at hp ⊢
        have h2 := hroot (q - 48) (by omega) hp
        exact ((hc (hfe 52 (by decide) h2)).2 (q - 48) (by omega) (hfe1 _ (by omega) hp)).1
      · have eq : q = 52 := by omega
        rw [eq] at hp ⊢
        exact (hc (hfe 52 (by decide) hp)).1
  have hspc : spc M1 = 0 := by
    refine ctb_0 240 (fun i hi => ?_)
    unfold spf
    by_cases hu : M1 6 (i % 120) = 0
    · simp [hu]
    · rcases hI1.2.1 (i % 120) (by omega) with z | ⟨_, q, hq, z⟩
      · exact absurd z hu
      · have hp : P1 11 q ≠ -1 := by
          rw [← e11]
          rcases z with z | z
          · rw [z]; exact nI_neg (by omega)
          · exact (hI1.2.2.2.1 q hq (by rw [z]; exact nI_neg (by omega))).1
        have g := hcl q hq hp (i / 120) (i % 120) (by omega) (by omega) z (by rw [e8]; exact sd_all.2.2.2.1 _ (by omega))
        rw [show 120 * (i / 120) + i % 120 = i by omega] at g
        simp [g]
  have hvv : v + nI (spc M1) = nI (spc (sQ x 20)) := hS.2.2.2
  rw [hspc, show nI 0 = 0 from rfl, Int32.add_zero] at hvv
  have e0 : M1 0 5 = sQ x 20 0 5 := by rw [hS.1 0 (by decide)]
  rw [e]
  refine ⟨?_, ?_, ?_⟩
  · show v = 30 - sQ x 20 0 5
    rw [hvv, show (30 : Int32) = nI 30 from rfl, ← i4, Int32.add_comm, Int32.add_sub_cancel]
  · show mup M1 0 5 (M1 0 5 + v) 0 5 = 30
    have e5 : mup M1 0 5 (M1 0 5 + v) 0 5 = M1 0 5 + v := by unfold mup; rw [mset_eq, pk_us]
    rw [e5, e0, hvv, i4]
    rfl
  · refine lost_P1 ?_ (fun q hq hp => ?_)
    · show mup M1 0 5 (M1 0 5 + v) 11 = P1 11
      rw [mup_ne (by decide), e11]
    · show fe (mup M1 0 5 (M1 0 5 + v)) q = true
      rw [fe_0 hq]; exact hfe1 q hq hp
end
