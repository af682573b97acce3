/-! ===== A WORLD WITHIN A WORLD: a contract over a small world serves over a large one ===== -/
section
def shm (em : Nat → Nat) : ShE → ShE
  | .inl o => .inl (o.1, o.2.map (Option.map em))
  | .inr a => .inr a
def svm (em : Nat → Nat) : SV → SV
  | .inl x => .inl x
  | .inr k => .inr (em k)
section EM
variable {l : Launch} {D : va_G} {ids : ClassId × ClassId × ClassId} {A : Nat → Nat} {sh1 sh2 : List ShE} {em : Nat → Nat}
theorem em_zfl (f : Nat → Int32) (fs : List (Option Nat)) : ∀ j : Nat, zfl (l, D, ids, fun k => A (em k), sh1) f j fs = zfl (l, D, ids, A, sh2) f j (fs.map (Option.map em)) := by
  induction fs with
  | nil => intro j; rfl
  | cons o r ih =>
    intro j
    cases o with
    | none => simp only [zfl, zfv, List.map_cons, Option.map_none, ih]
    | some q => simp only [zfl, zfv, List.map_cons, Option.map_some, ih]
theorem em_zcl (f : Nat → Int32) (x : ShE) : zcl (l, D, ids, fun k => A (em k), sh1) f x = zcl (l, D, ids, A, sh2) f (shm em x) := by
  rcases x with ⟨ci, fs⟩ | ⟨b, n⟩
  · show Sum.inr (ci, zfl (l, D, ids, fun k => A (em k), sh1) f 0 fs) = Sum.inr (ci, zfl (l, D, ids, A, sh2) f 0 (fs.map (Option.map em)))
    rw [em_zfl (l := l) (D := D) (ids := ids) (A := A) (sh1 := sh1) (sh2 := sh2) (em := em) f fs 0]
  · rcases b with _ | _ | _ <;> rfl
theorem em_zv (v : SV) : zv (l, D, ids, A, sh2) (svm em v) = zv (l, D, ids, fun k => A (em k), sh1) v := by cases v <;> rfl
/-- how the small world lies in the large one: M the large memory, m the small one -/
def zEm (em : Nat → Nat) (sh1 sh2 : List ShE) (m M : Mem) : Prop :=
  (∀ (k : Nat) (x : ShE), sh1[k]? = some x → sh2[em k]? = some (shm em x) ∧ M (em k) = m k) ∧ ∀ (i j : Nat) (x y : ShE), sh1[i]? = some x → sh1[j]? = some y → em i = em j → i = j
theorem em_at {m M : Mem} (h : zEm em sh1 sh2 m M) {k : Nat} {q : Nat × va_E} (hk : (zws (l, D, ids, fun k => A (em k), sh1) m)[k]? = some q) : (zws (l, D, ids, A, sh2) M)[em k]? = some q := by
  obtain ⟨x, hx, rfl⟩ := zws_inv hk
  obtain ⟨h1, h2⟩ := h.1 k x hx
  rw [zws_get]
  show Option.map _ (sh2[em k]?) = _
  rw [h1]
  show some (A (em k), zcl (l, D, ids, A, sh2) (M (em k)) (shm em x)) = some (A (em k), zcl (l, D, ids, fun k => A (em k), sh1) (m k) x)
  rw [h2, em_zcl (l := l) (D := D) (ids := ids) (A := A) (sh1 := sh1) (sh2 := sh2) (em := em) (m k) x]
theorem em_zA {m M : Mem} (h : zEm em sh1 sh2 m M) {sz q : Nat} (hq : zA (l, D, ids, fun k => A (em k), sh1) sz q) : zA (l, D, ids, A, sh2) sz q := by
  rcases hq with ⟨k, x, hx, rfl⟩ | hq
  · exact Or.inl ⟨em k, shm em x, (h.1 k x hx).1, rfl⟩
  · exact Or.inr hq
theorem em_P {m M : Mem} (h : zEm em sh1 sh2 m M) {H : Heap} (hP : va_P D vwCl (zws (l, D, ids, A, sh2) M) H) : va_P D vwCl (zws (l, D, ids, fun k => A (em k), sh1) m) H := fun k q hk => hP (em k) q (em_at h hk)
theorem em_D {m M : Mem} (h : zEm em sh1 sh2 m M) {B : Nat → Prop} (hD : va_D B (zws (l, D, ids, A, sh2) M)) : va_D B (zws (l, D, ids, fun k => A (em k), sh1) m) := by
  refine ⟨fun i j p q hp hq e => ?_, fun k q hk => hD.2 (em k) q (em_at h hk)⟩
  have e1 := hD.1 (em i) (em j) p q (em_at h hp) (em_at h hq) e
  obtain ⟨x, hx, -⟩ := zws_inv hp
  obtain ⟨y, hy, -⟩ := zws_inv hq
  exact h.2 i j x y hx hy e1
/-- what the small world's method leaves, seen in the large one -/
theorem em_back {m n M N : Mem} (h : zEm em sh1 sh2 m M) (h' : zEm em sh1 sh2 n N) (ho : ∀ j, (∀ (k : Nat) (x : ShE), sh1[k]? = some x → em k ≠ j) → N j = M j) {s t : State}
    (hP : va_P D vwCl (zws (l, D, ids, A, sh2) M) s.heap) (hD : va_D (fun _ => True) (zws (l, D, ids, A, sh2) M)) (hT : va_P D vwCl (zws (l, D, ids, fun k => A (em k), sh1) n) t.heap)
    (hF : va_F (zA (l, D, ids, fun k => A (em k), sh1) s.heap.size) s t) : va_P D vwCl (zws (l, D, ids, A, sh2) N) t.heap := by
  intro j q hj
  by_cases hin : ∃ (k : Nat) (x : ShE), sh1[k]? = some x ∧ em k = j
  · obtain ⟨k, x, hx, rfl⟩ := hin
    have h1 := em_at (l := l) (D := D) (ids := ids) (A := A) h' (zws_at (g := (l, D, ids, fun k => A (em k), sh1)) (M := n) hx)
    rw [hj] at h1
    cases h1
    exact hT k _ (zws_at (g := (l, D, ids, fun k => A (em k), sh1)) (M := n) hx)
  · have hno : ∀ (k : Nat) (x : ShE), sh1[k]? = some x → em k ≠ j := fun k x hx e => hin ⟨k, x, hx, e⟩
    have e1 := ho j hno
    have hj' : (zws (l, D, ids, A, sh2) M)[j]? = some q := by rw [zws_get] at hj ⊢; rw [← e1]; exact hj
    have hq := hP j q hj'
    have hlt : q.1 < s.heap.size := hq.lt
    have hna : ¬ zA (l, D, ids, fun k => A (em k), sh1) s.heap.size q.1 := by
      rintro (⟨k, x, hx, e⟩ | h9)
      · have h2 := em_at (l := l) (D := D) (ids := ids) (A := A) h (zws_at (g := (l, D, ids, fun k => A (em k), sh1)) (M := m) hx)
        exact hno k x hx (hD.1 (em k) j _ q h2 hj' e.symm)
      · omega
    have hkeep := hF.2 q.1 hlt hna
    have h1 : va_P D vwCl [q] s.heap := fun i z hz => by
      cases i with
      | zero => cases hz; exact hq
      | succ i => simp at hz
    exact (h1.kept (H1 := t.heap) (fun i z hz => by
      cases i with
      | zero => cases hz; exact hkeep
      | succ i => simp at hz)) 0 q rfl
end EM
theorem vx_conseq {l : Launch} {y : MethodName} {ws : List Cond} {rm : Room} {Pc Pc' : Array Value → State → Prop} {Qc Qc' : Array Value → State → Outcome → State → Prop} {XC XC' : String → State → State → Prop} {mc ms : Nat} {F F' : Addr → Prop} (h : vx_Met l y ws rm Pc Qc XC mc ms F)
    (hP : ∀ a s, Pc' a s → Pc a s) (hQ : ∀ a s o t, Pc' a s → Qc a s o t → Qc' a s o t) (hX : ∀ E a s t, Pc' a s → XC E s t → XC' E s t) (hF : ∀ q, F q → F' q) : vx_Met l y ws rm Pc' Qc' XC' mc ms F' := by
  intro p e ha hc hk s m args below hf happ hp hK
  obtain ⟨n, o, h1, h2, h3, h4⟩ := h p e ha hc hk s m args below hf happ (hP _ _ hp) hK
  refine ⟨n, o, h1, h2, h3, ?_⟩
  rcases h4 with ⟨g1, L, g2, g3⟩ | ⟨q, g0, E, ce, L, g1, g2, g3, g4, g5, g6, g7⟩
  · exact Or.inl ⟨hQ _ _ _ _ hp g1, L, g2, fun q hq => hF _ (g3 q hq)⟩
  · exact Or.inr ⟨q, g0, E, ce, L, hX _ _ _ _ hp g1, g2, g3, g4, g5, g6, fun q hq => hF _ (g7 q hq)⟩
/-- the words do not matter: any contract of this form -/
theorem em_met {l : Launch} {D : va_G} {ids : ClassId × ClassId × ClassId} {A : Nat → Nat} {sh1 sh2 : List ShE} {em : Nat → Nat} {y : MethodName} {ws : List Cond} {rm : Room} {args : List SV} {m n M N : Mem} {r : Option Int32 ⊕ String} {mc ms sz : Nat}
    (h : vx_Met l y ws rm (va_Pc (args.map (zv (l, D, ids, fun k => A (em k), sh1))) (zPre (l, D, ids, fun k => A (em k), sh1) m sz)) (zQ (l, D, ids, fun k => A (em k), sh1) (zA (l, D, ids, fun k => A (em k), sh1) sz) (r, n)) (zX (l, D, ids, fun k => A (em k), sh1) (zA (l, D, ids, fun k => A (em k), sh1) sz) (r, n)) mc ms (zA (l, D, ids, fun k => A (em k), sh1) sz))
    (h1 : zEm em sh1 sh2 m M) (h2 : zEm em sh1 sh2 n N) (ho : ∀ j, (∀ (k : Nat) (x : ShE), sh1[k]? = some x → em k ≠ j) → N j = M j) :
    vx_Met l y ws rm (va_Pc ((args.map (svm em)).map (zv (l, D, ids, A, sh2))) (zPre (l, D, ids, A, sh2) M sz)) (zQ (l, D, ids, A, sh2) (zA (l, D, ids, A, sh2) sz) (r, N)) (zX (l, D, ids, A, sh2) (zA (l, D, ids, A, sh2) sz) (r, N)) mc ms (zA (l, D, ids, A, sh2) sz) := by
  have hF : ∀ {s t : State}, va_F (zA (l, D, ids, fun k => A (em k), sh1) sz) s t → va_F (zA (l, D, ids, A, sh2) sz) s t := fun hF => ⟨hF.1, fun q h9 hn => hF.2 q h9 (fun z => hn (em_zA h1 z))⟩
  refine vx_conseq h (fun a s hp => ?_) (fun a s o t hp hq => ?_) (fun E a s t hp hq => ?_) (fun q hq => em_zA h1 hq)
  · obtain ⟨rfl, hsz, hP, hD, hK, hE⟩ := hp
    refine ⟨?_, hsz, em_P h1 hP, em_D h1 hD, hK, hE.narrow (fun q hq => em_zA h1 hq)⟩
    congr 1
    rw [List.map_map]
    exact List.map_congr_left (fun v _ => em_zv v)
  · obtain ⟨-, hsz, hP, hD, hK, hE⟩ := hp
    obtain ⟨⟨r', N', hB, ho', hP'⟩, hF'⟩ := hq
    cases hB
    subst hsz
    exact ⟨⟨r', N, rfl, ho', em_back h1 h2 ho hP hD hP' hF'⟩, hF hF'⟩
  · obtain ⟨-, hsz, hP, hD, hK, hE⟩ := hp
    obtain ⟨⟨N', hB, hP'⟩, hF'⟩ := hq
    cases hB
    subst hsz
    exact ⟨⟨N, rfl, em_back h1 h2 ho hP hD hP' hF'⟩, hF hF'⟩
theorem Zc.emb {l : Launch} {D : va_G} {ids : ClassId × ClassId × ClassId} {A : Nat → Nat} {sh1 sh2 : List ShE} {em : Nat → Nat} {μ : MI} {args : List SV} {m n M N : Mem} {r : Option Int32 ⊕ String} {mc ms : Nat} (h : Zc (l, D, ids, fun k => A (em k), sh1) μ mc ms args m (r, n))
    (h1 : zEm em sh1 sh2 m M) (h2 : zEm em sh1 sh2 n N) (ho : ∀ j, (∀ (k : Nat) (x : ShE), sh1[k]? = some x → em k ≠ j) → N j = M j) : Zc (l, D, ids, A, sh2) μ mc ms (args.map (svm em)) M (r, N) := fun sz => em_met (h sz) h1 h2 ho
end
