/-! ===== THE LAW'S WORLDS: how the class's lies in them ===== -/
section
def emB (em : Nat → Nat) (sh1 sh2 : List ShE) : Bool := (List.range sh1.length).all (fun k => decide (sh2[em k]? = (sh1[k]?).map (shm em))) && (List.range sh1.length).all (fun i => (List.range sh1.length).all (fun j => decide (em i = em j → i = j)))
theorem zEm_of {em : Nat → Nat} {sh1 sh2 : List ShE} {m M : Mem} (hB : emB em sh1 sh2 = true) (hm : ∀ k, k < sh1.length → M (em k) = m k) : zEm em sh1 sh2 m M := by
  unfold emB at hB
  rw [Bool.and_eq_true, List.all_eq_true, List.all_eq_true] at hB
  obtain ⟨h1, h2⟩ := hB
  refine ⟨fun k x hx => ?_, fun i j x y hx hy e => ?_⟩
  · have hk : k < sh1.length := (List.getElem?_eq_some_iff.mp hx).1
    have h := of_decide_eq_true (h1 k (List.mem_range.mpr hk))
    rw [hx] at h
    exact ⟨h, hm k hk⟩
  · have hi : i < sh1.length := (List.getElem?_eq_some_iff.mp hx).1
    have hj : j < sh1.length := (List.getElem?_eq_some_iff.mp hy).1
    have h := h2 i (List.mem_range.mpr hi)
    rw [List.all_eq_true] at h
    exact of_decide_eq_true (h j (List.mem_range.mpr hj)) e
theorem zEm_ho {em : Nat → Nat} {sh1 : List ShE} {M N : Mem} (h : ∀ j, (∀ k, k < sh1.length → em k ≠ j) → N j = M j) : ∀ j, (∀ (k : Nat) (x : ShE), sh1[k]? = some x → em k ≠ j) → N j = M j :=
  fun j hj => h j (fun k hk => hj k sh1[k] (List.getElem?_eq_getElem hk))
/-- the world from the cell o on -/
abbrev zsh (o : Nat) (q : ZQ) : ZQ := (q.1, q.2.1, q.2.2.1, fun k => q.2.2.2 (o + k))
-- two pools
abbrev shT : List ShE := shX ++ [.inl (4, [some 21, some 22, some 23, some 24, some 25, none]), .inl (0, [some 26, some 27, some 28, some 29]), .inl (3, [some 30, some 31, some 32, some 33, some 34]), .inl (2, [some 35, none]), .inl (1, [some 36, some 37, some 38, some 39]),
  .inr (false, 4), .inr (true, 120), .inr (true, 240), .inr (true, 6), .inr (false, 6), .inr (false, 48), .inr (false, 53), .inr (false, 53), .inr (false, 53), .inr (false, 53), .inr (false, 48), .inr (false, 3), .inr (false, 3), .inr (false, 53), .inr (false, 53)]
abbrev zgT (q : ZQ) : ZG := (q.1, q.2.1, q.2.2.1, q.2.2.2, shT)
def dm (P R : Mem) : Mem := fun k => if k < 20 then P k else if k < 40 then R (k - 20) else fun _ => 0
theorem emB_T0 : emB (fun k => k) shX shT = true := by decide +kernel
theorem emB_T1 : emB (fun k => 20 + k) shX shT = true := by decide +kernel
theorem dm_0 (P R : Mem) : zEm (fun k => k) shX shT P (dm P R) := zEm_of emB_T0 (fun k hk => if_pos hk)
theorem dm_1 (P R : Mem) : zEm (fun k => 20 + k) shX shT R (dm P R) := zEm_of emB_T1 (fun k hk => by
  have hk' : k < 20 := hk
  unfold dm; rw [if_neg (by omega), if_pos (by omega), Nat.add_sub_cancel_left])
theorem dm_0o (P N R : Mem) : ∀ j, (∀ (k : Nat) (x : ShE), shX[k]? = some x → k ≠ j) → dm N R j = dm P R j := zEm_ho (em := fun k => k) (fun j hj => by
  have : ¬ j < 20 := fun h => hj j h rfl
  unfold dm; rw [if_neg this, if_neg this])
theorem dm_1o (P N R : Mem) : ∀ j, (∀ (k : Nat) (x : ShE), shX[k]? = some x → 20 + k ≠ j) → dm P N j = dm P R j := zEm_ho (em := fun k => 20 + k) (sh1 := shX) (fun j hj => by
  unfold dm
  by_cases h : j < 20
  · rw [if_pos h, if_pos h]
  · rw [if_neg h, if_neg h]
    by_cases h2 : j < 40
    · exact absurd (show 20 + (j - 20) = j by omega) (hj (j - 20) (show j - 20 < 20 by omega))
    · rw [if_neg h2, if_neg h2])
theorem T0 {q : ZQ} {μ : MI} {hh : List (Nat × Nat × Nat × Nat)} {as : List SV} {P N R : Mem} {k : Int32} (h : Zd (zgX q) μ hh as P k N) : Zd (zgT q) μ hh (as.map (svm fun k => k)) (dm P R) k (dm N R) := Zd.emb (em := fun k => k) h (dm_0 P R) (dm_0 N R) (dm_0o P N R)
theorem T1 {q : ZQ} {μ : MI} {hh : List (Nat × Nat × Nat × Nat)} {as : List SV} {P N R : Mem} {k : Int32} (h : Zd (zgX (zsh 20 q)) μ hh as R k N) : Zd (zgT q) μ hh (as.map (svm fun k => 20 + k)) (dm P R) k (dm P N) := Zd.emb (em := fun k => 20 + k) h (dm_1 P R) (dm_1 P N) (dm_1o P N R)
theorem T0c {q : ZQ} {μ : MI} {mc ms : Nat} {as : List SV} {P N R : Mem} {r : Option Int32 ⊕ String} (h : Zc (zgX q) μ mc ms as P (r, N)) : Zc (zgT q) μ mc ms (as.map (svm fun k => k)) (dm P R) (r, dm N R) := Zc.emb (em := fun k => k) h (dm_0 P R) (dm_0 N R) (dm_0o P N R)
theorem T1c {q : ZQ} {μ : MI} {mc ms : Nat} {as : List SV} {P N R : Mem} {r : Option Int32 ⊕ String} (h : Zc (zgX (zsh 20 q)) μ mc ms as R (r, N)) : Zc (zgT q) μ mc ms (as.map (svm fun k => 20 + k)) (dm P R) (r, dm P N) := Zc.emb (em := fun k => 20 + k) h (dm_1 P R) (dm_1 P N) (dm_1o P N R)
/-- a world of one pool and some arrays behind it -/
def xm (P : Mem) (f : Nat → Nat → Int32) : Mem := fun k => if k < 20 then P k else f (k - 20)
-- act: last, held; holds: last, held, noted; isTrue: last; isOwn: noted
abbrev shA : List ShE := shX ++ [.inr (false, 48), .inr (false, 48)]
abbrev shH : List ShE := shX ++ [.inr (false, 48), .inr (false, 48), .inr (none, 3)]
abbrev shU : List ShE := shX ++ [.inr (false, 48)]
abbrev shO : List ShE := shX ++ [.inr (none, 3)]
abbrev zgA (q : ZQ) : ZG := (q.1, q.2.1, q.2.2.1, q.2.2.2, shA)
abbrev zgH (q : ZQ) : ZG := (q.1, q.2.1, q.2.2.1, q.2.2.2, shH)
abbrev zgU (q : ZQ) : ZG := (q.1, q.2.1, q.2.2.1, q.2.2.2, shU)
abbrev zgO (q : ZQ) : ZG := (q.1, q.2.1, q.2.2.1, q.2.2.2, shO)
def f1 (l : Nat → Int32) : Nat → Nat → Int32 := fun k => match k with | 0 => l | _ => fun _ => 0
def f2 (l h : Nat → Int32) : Nat → Nat → Int32 := fun k => match k with | 0 => l | 1 => h | _ => fun _ => 0
def f3 (l h c : Nat → Int32) : Nat → Nat → Int32 := fun k => match k with | 0 => l | 1 => h | 2 => c | _ => fun _ => 0
theorem emB_A : emB (fun k => k) shX shA = true := by decide +kernel
theorem emB_H : emB (fun k => k) shX shH = true := by decide +kernel
theorem emB_U : emB (fun k => k) shX shU = true := by decide +kernel
theorem emB_O : emB (fun k => k) shX shO = true := by decide +kernel
theorem xm_e {sh2 : List ShE} (hB : emB (fun k => k) shX sh2 = true) (P : Mem) (f : Nat → Nat → Int32) : zEm (fun k => k) shX sh2 P (xm P f) := zEm_of hB (fun k hk => if_pos hk)
theorem xm_o (P N : Mem) (f : Nat → Nat → Int32) : ∀ j, (∀ (k : Nat) (x : ShE), shX[k]? = some x → k ≠ j) → xm N f j = xm P f j := zEm_ho (em := fun k => k) (fun j hj => by
  have : ¬ j < 20 := fun h => hj j h rfl
  unfold xm; rw [if_neg this, if_neg this])
theorem XA {q : ZQ} {μ : MI} {hh : List (Nat × Nat × Nat × Nat)} {as : List SV} {P N : Mem} {f : Nat → Nat → Int32} {k : Int32} (h : Zd (zgX q) μ hh as P k N) : Zd (zgA q) μ hh (as.map (svm fun k => k)) (xm P f) k (xm N f) := Zd.emb (em := fun k => k) h (xm_e emB_A P f) (xm_e emB_A N f) (xm_o P N f)
theorem XAc {q : ZQ} {μ : MI} {mc ms : Nat} {as : List SV} {P N : Mem} {f : Nat → Nat → Int32} {r : Option Int32 ⊕ String} (h : Zc (zgX q) μ mc ms as P (r, N)) : Zc (zgA q) μ mc ms (as.map (svm fun k => k)) (xm P f) (r, xm N f) := Zc.emb (em := fun k => k) h (xm_e emB_A P f) (xm_e emB_A N f) (xm_o P N f)
theorem XH {q : ZQ} {μ : MI} {hh : List (Nat × Nat × Nat × Nat)} {as : List SV} {P N : Mem} {f : Nat → Nat → Int32} {k : Int32} (h : Zd (zgX q) μ hh as P k N) : Zd (zgH q) μ hh (as.map (svm fun k => k)) (xm P f) k (xm N f) := Zd.emb (em := fun k => k) h (xm_e emB_H P f) (xm_e emB_H N f) (xm_o P N f)
theorem XHc {q : ZQ} {μ : MI} {mc ms : Nat} {as : List SV} {P N : Mem} {f : Nat → Nat → Int32} {r : Option Int32 ⊕ String} (h : Zc (zgX q) μ mc ms as P (r, N)) : Zc (zgH q) μ mc ms (as.map (svm fun k => k)) (xm P f) (r, xm N f) := Zc.emb (em := fun k => k) h (xm_e emB_H P f) (xm_e emB_H N f) (xm_o P N f)
theorem XU {q : ZQ} {μ : MI} {hh : List (Nat × Nat × Nat × Nat)} {as : List SV} {P N : Mem} {f : Nat → Nat → Int32} {k : Int32} (h : Zd (zgX q) μ hh as P k N) : Zd (zgU q) μ hh (as.map (svm fun k => k)) (xm P f) k (xm N f) := Zd.emb (em := fun k => k) h (xm_e emB_U P f) (xm_e emB_U N f) (xm_o P N f)
theorem XUc {q : ZQ} {μ : MI} {mc ms : Nat} {as : List SV} {P N : Mem} {f : Nat → Nat → Int32} {r : Option Int32 ⊕ String} (h : Zc (zgX q) μ mc ms as P (r, N)) : Zc (zgU q) μ mc ms (as.map (svm fun k => k)) (xm P f) (r, xm N f) := Zc.emb (em := fun k => k) h (xm_e emB_U P f) (xm_e emB_U N f) (xm_o P N f)
theorem XO {q : ZQ} {μ : MI} {hh : List (Nat × Nat × Nat × Nat)} {as : List SV} {P N : Mem} {f : Nat → Nat → Int32} {k : Int32} (h : Zd (zgX q) μ hh as P k N) : Zd (zgO q) μ hh (as.map (svm fun k => k)) (xm P f) k (xm N f) := Zd.emb (em := fun k => k) h (xm_e emB_O P f) (xm_e emB_O N f) (xm_o P N f)
end
