/-! ===== by program (wip/whole/ctor.py): the reference's constructor ===== -/
section
abbrev mX5_init : MI := (yX5_init, cX5_init, 2, none, 1, 12)
theorem zi_X5_init : zin mX5_init 0 := ⟨zm3 213 (by decide +kernel) rfl, (zm1 7 (by decide +kernel) rfl), ⟨by decide, by decide⟩, by decide +kernel⟩
theorem dX5_init_0 : decode cX5_init 0 = .ok (.aload_n 0, 1) := by decide +kernel
theorem dX5_init_1 : decode cX5_init 1 = .ok (.invokespecial 1, 3) := by decide +kernel
theorem dX5_init_4 : decode cX5_init 4 = .ok (.aload_n 0, 1) := by decide +kernel
theorem dX5_init_5 : decode cX5_init 5 = .ok (.iconst 1, 1) := by decide +kernel
theorem dX5_init_6 : decode cX5_init 6 = .ok (.putfield 7, 3) := by decide +kernel
theorem dX5_init_9 : decode cX5_init 9 = .ok (.aload_n 0, 1) := by decide +kernel
theorem dX5_init_10 : decode cX5_init 10 = .ok (.iconst 4, 1) := by decide +kernel
theorem dX5_init_11 : decode cX5_init 11 = .ok (.newarray .int, 2) := by decide +kernel
theorem dX5_init_13 : decode cX5_init 13 = .ok (.dup, 1) := by decide +kernel
theorem dX5_init_14 : decode cX5_init 14 = .ok (.iconst 0, 1) := by decide +kernel
theorem dX5_init_15 : decode cX5_init 15 = .ok (.iconst 1, 1) := by decide +kernel
theorem dX5_init_16 : decode cX5_init 16 = .ok (.iastore, 1) := by decide +kernel
theorem dX5_init_17 : decode cX5_init 17 = .ok (.dup, 1) := by decide +kernel
theorem dX5_init_18 : decode cX5_init 18 = .ok (.iconst 1, 1) := by decide +kernel
theorem dX5_init_19 : decode cX5_init 19 = .ok (.iconst 1, 1) := by decide +kernel
theorem dX5_init_20 : decode cX5_init 20 = .ok (.iastore, 1) := by decide +kernel
theorem dX5_init_21 : decode cX5_init 21 = .ok (.dup, 1) := by decide +kernel
theorem dX5_init_22 : decode cX5_init 22 = .ok (.iconst 2, 1) := by decide +kernel
theorem dX5_init_23 : decode cX5_init 23 = .ok (.iconst 1, 1) := by decide +kernel
theorem dX5_init_24 : decode cX5_init 24 = .ok (.iastore, 1) := by decide +kernel
theorem dX5_init_25 : decode cX5_init 25 = .ok (.dup, 1) := by decide +kernel
theorem dX5_init_26 : decode cX5_init 26 = .ok (.iconst 3, 1) := by decide +kernel
theorem dX5_init_27 : decode cX5_init 27 = .ok (.iconst 1, 1) := by decide +kernel
theorem dX5_init_28 : decode cX5_init 28 = .ok (.iastore, 1) := by decide +kernel
theorem dX5_init_29 : decode cX5_init 29 = .ok (.putfield 13, 3) := by decide +kernel
theorem dX5_init_32 : decode cX5_init 32 = .ok (.aload_n 0, 1) := by decide +kernel
theorem dX5_init_33 : decode cX5_init 33 = .ok (.bipush 48, 2) := by decide +kernel
theorem dX5_init_35 : decode cX5_init 35 = .ok (.newarray .int, 2) := by decide +kernel
theorem dX5_init_37 : decode cX5_init 37 = .ok (.putfield 17, 3) := by decide +kernel
theorem dX5_init_40 : decode cX5_init 40 = .ok (.aload_n 0, 1) := by decide +kernel
theorem dX5_init_41 : decode cX5_init 41 = .ok (.bipush 48, 2) := by decide +kernel
theorem dX5_init_43 : decode cX5_init 43 = .ok (.newarray .int, 2) := by decide +kernel
theorem dX5_init_45 : decode cX5_init 45 = .ok (.putfield 20, 3) := by decide +kernel
theorem dX5_init_48 : decode cX5_init 48 = .ok (.aload_n 0, 1) := by decide +kernel
theorem dX5_init_49 : decode cX5_init 49 = .ok (.bipush 53, 2) := by decide +kernel
theorem dX5_init_51 : decode cX5_init 51 = .ok (.newarray .int, 2) := by decide +kernel
theorem dX5_init_53 : decode cX5_init 53 = .ok (.putfield 23, 3) := by decide +kernel
theorem dX5_init_56 : decode cX5_init 56 = .ok (.aload_n 0, 1) := by decide +kernel
theorem dX5_init_57 : decode cX5_init 57 = .ok (.bipush 53, 2) := by decide +kernel
theorem dX5_init_59 : decode cX5_init 59 = .ok (.newarray .int, 2) := by decide +kernel
theorem dX5_init_61 : decode cX5_init 61 = .ok (.putfield 26, 3) := by decide +kernel
theorem dX5_init_64 : decode cX5_init 64 = .ok (.aload_n 0, 1) := by decide +kernel
theorem dX5_init_65 : decode cX5_init 65 = .ok (.bipush 53, 2) := by decide +kernel
theorem dX5_init_67 : decode cX5_init 67 = .ok (.newarray .int, 2) := by decide +kernel
theorem dX5_init_69 : decode cX5_init 69 = .ok (.putfield 29, 3) := by decide +kernel
theorem dX5_init_72 : decode cX5_init 72 = .ok (.aload_n 0, 1) := by decide +kernel
theorem dX5_init_73 : decode cX5_init 73 = .ok (.bipush 53, 2) := by decide +kernel
theorem dX5_init_75 : decode cX5_init 75 = .ok (.newarray .int, 2) := by decide +kernel
theorem dX5_init_77 : decode cX5_init 77 = .ok (.putfield 32, 3) := by decide +kernel
theorem dX5_init_80 : decode cX5_init 80 = .ok (.aload_n 0, 1) := by decide +kernel
theorem dX5_init_81 : decode cX5_init 81 = .ok (.bipush 120, 2) := by decide +kernel
theorem dX5_init_83 : decode cX5_init 83 = .ok (.newarray .boolean, 2) := by decide +kernel
theorem dX5_init_85 : decode cX5_init 85 = .ok (.putfield 35, 3) := by decide +kernel
theorem dX5_init_88 : decode cX5_init 88 = .ok (.aload_n 0, 1) := by decide +kernel
theorem dX5_init_89 : decode cX5_init 89 = .ok (.sipush 240, 3) := by decide +kernel
theorem dX5_init_92 : decode cX5_init 92 = .ok (.newarray .boolean, 2) := by decide +kernel
theorem dX5_init_94 : decode cX5_init 94 = .ok (.putfield 39, 3) := by decide +kernel
theorem dX5_init_97 : decode cX5_init 97 = .ok (.aload_n 0, 1) := by decide +kernel
theorem dX5_init_98 : decode cX5_init 98 = .ok (.bipush 6, 2) := by decide +kernel
theorem dX5_init_100 : decode cX5_init 100 = .ok (.newarray .boolean, 2) := by decide +kernel
theorem dX5_init_102 : decode cX5_init 102 = .ok (.putfield 42, 3) := by decide +kernel
theorem dX5_init_105 : decode cX5_init 105 = .ok (.aload_n 0, 1) := by decide +kernel
theorem dX5_init_106 : decode cX5_init 106 = .ok (.bipush 6, 2) := by decide +kernel
theorem dX5_init_108 : decode cX5_init 108 = .ok (.newarray .int, 2) := by decide +kernel
theorem dX5_init_110 : decode cX5_init 110 = .ok (.putfield 45, 3) := by decide +kernel
theorem dX5_init_113 : decode cX5_init 113 = .ok (.aload_n 0, 1) := by decide +kernel
theorem dX5_init_114 : decode cX5_init 114 = .ok (.bipush 120, 2) := by decide +kernel
theorem dX5_init_116 : decode cX5_init 116 = .ok (.newarray .boolean, 2) := by decide +kernel
theorem dX5_init_118 : decode cX5_init 118 = .ok (.putfield 48, 3) := by decide +kernel
theorem dX5_init_121 : decode cX5_init 121 = .ok (.aload_n 0, 1) := by decide +kernel
theorem dX5_init_122 : decode cX5_init 122 = .ok (.bipush 120, 2) := by decide +kernel
theorem dX5_init_124 : decode cX5_init 124 = .ok (.newarray .boolean, 2) := by decide +kernel
theorem dX5_init_126 : decode cX5_init 126 = .ok (.putfield 51, 3) := by decide +kernel
theorem dX5_init_129 : decode cX5_init 129 = .ok (.aload_n 0, 1) := by decide +kernel
theorem dX5_init_130 : decode cX5_init 130 = .ok (.bipush 53, 2) := by decide +kernel
theorem dX5_init_132 : decode cX5_init 132 = .ok (.newarray .int, 2) := by decide +kernel
theorem dX5_init_134 : decode cX5_init 134 = .ok (.putfield 54, 3) := by decide +kernel
theorem dX5_init_137 : decode cX5_init 137 = .ok (.aload_n 0, 1) := by decide +kernel
theorem dX5_init_138 : decode cX5_init 138 = .ok (.bipush 53, 2) := by decide +kernel
theorem dX5_init_140 : decode cX5_init 140 = .ok (.newarray .int, 2) := by decide +kernel
theorem dX5_init_142 : decode cX5_init 142 = .ok (.putfield 57, 3) := by decide +kernel
theorem dX5_init_145 : decode cX5_init 145 = .ok (.aload_n 0, 1) := by decide +kernel
theorem dX5_init_146 : decode cX5_init 146 = .ok (.bipush 53, 2) := by decide +kernel
theorem dX5_init_148 : decode cX5_init 148 = .ok (.newarray .boolean, 2) := by decide +kernel
theorem dX5_init_150 : decode cX5_init 150 = .ok (.putfield 60, 3) := by decide +kernel
theorem dX5_init_153 : decode cX5_init 153 = .ok (.iconst 0, 1) := by decide +kernel
theorem dX5_init_154 : decode cX5_init 154 = .ok (.istore_n 1, 1) := by decide +kernel
theorem dX5_init_155 : decode cX5_init 155 = .ok (.iload_n 1, 1) := by decide +kernel
theorem dX5_init_156 : decode cX5_init 156 = .ok (.bipush 48, 2) := by decide +kernel
theorem dX5_init_158 : decode cX5_init 158 = .ok (.if_icmp .ge 16, 3) := by decide +kernel
theorem dX5_init_161 : decode cX5_init 161 = .ok (.aload_n 0, 1) := by decide +kernel
theorem dX5_init_162 : decode cX5_init 162 = .ok (.getfield 20, 3) := by decide +kernel
theorem dX5_init_165 : decode cX5_init 165 = .ok (.iload_n 1, 1) := by decide +kernel
theorem dX5_init_166 : decode cX5_init 166 = .ok (.iconst (-1), 1) := by decide +kernel
theorem dX5_init_167 : decode cX5_init 167 = .ok (.iastore, 1) := by decide +kernel
theorem dX5_init_168 : decode cX5_init 168 = .ok (.iinc 1 1, 3) := by decide +kernel
theorem dX5_init_171 : decode cX5_init 171 = .ok (.goto (-16), 3) := by decide +kernel
theorem dX5_init_174 : decode cX5_init 174 = .ok (.iconst 0, 1) := by decide +kernel
theorem dX5_init_175 : decode cX5_init 175 = .ok (.istore_n 1, 1) := by decide +kernel
theorem dX5_init_176 : decode cX5_init 176 = .ok (.iload_n 1, 1) := by decide +kernel
theorem dX5_init_177 : decode cX5_init 177 = .ok (.bipush 53, 2) := by decide +kernel
theorem dX5_init_179 : decode cX5_init 179 = .ok (.if_icmp .ge 23, 3) := by decide +kernel
theorem dX5_init_182 : decode cX5_init 182 = .ok (.aload_n 0, 1) := by decide +kernel
theorem dX5_init_183 : decode cX5_init 183 = .ok (.getfield 23, 3) := by decide +kernel
theorem dX5_init_186 : decode cX5_init 186 = .ok (.iload_n 1, 1) := by decide +kernel
theorem dX5_init_187 : decode cX5_init 187 = .ok (.iconst (-1), 1) := by decide +kernel
theorem dX5_init_188 : decode cX5_init 188 = .ok (.iastore, 1) := by decide +kernel
theorem dX5_init_189 : decode cX5_init 189 = .ok (.aload_n 0, 1) := by decide +kernel
theorem dX5_init_190 : decode cX5_init 190 = .ok (.getfield 26, 3) := by decide +kernel
theorem dX5_init_193 : decode cX5_init 193 = .ok (.iload_n 1, 1) := by decide +kernel
theorem dX5_init_194 : decode cX5_init 194 = .ok (.iconst (-1), 1) := by decide +kernel
theorem dX5_init_195 : decode cX5_init 195 = .ok (.iastore, 1) := by decide +kernel
theorem dX5_init_196 : decode cX5_init 196 = .ok (.iinc 1 1, 3) := by decide +kernel
theorem dX5_init_199 : decode cX5_init 199 = .ok (.goto (-23), 3) := by decide +kernel
theorem dX5_init_202 : decode cX5_init 202 = .ok (.return_, 1) := by decide +kernel
theorem zkp_X5_20 : zkp RX5 20 5 5 (.array .int) := ⟨RX5, TX5, 20, tyX5, rfl, zu_X5, by decide, (zm3 220 (by decide +kernel) rfl), tyX5_ok, nmX5, Or.inr ⟨rfl, rfl⟩, by decide +kernel⟩
theorem zkp_X5_23 : zkp RX5 23 5 6 (.array .int) := ⟨RX5, TX5, 20, tyX5, rfl, zu_X5, by decide, (zm3 221 (by decide +kernel) rfl), tyX5_ok, nmX5, Or.inr ⟨rfl, rfl⟩, by decide +kernel⟩
theorem zkp_X5_26 : zkp RX5 26 5 7 (.array .int) := ⟨RX5, TX5, 20, tyX5, rfl, zu_X5, by decide, (zm3 222 (by decide +kernel) rfl), tyX5_ok, nmX5, Or.inr ⟨rfl, rfl⟩, by decide +kernel⟩
theorem lp_M1 {q : KQ} {h0 mc ms ce sl : Nat} {Post : va_W → Prop} {W : (Nat → Int32) → va_W} {j a : Nat} {fs : List Value} (hobj : ∀ f, (W f)[0]? = some (h0, .inr (5, fs))) (hfs : fs[5]? = some (.ref a)) (harr : ∀ f, (W f)[j]? = some (a, .inl (q.2.2.1, 48, .inl f))) (hset : ∀ f f', (W f).set j (a, .inl (q.2.2.1, 48, .inl f')) = W f')
    (K : ∀ (f : Nat → Int32) (x : Int32), (∀ k, k < 48 → f k = -1) → Kg q mX5_init h0 mc ms Post ce sl 174 [(1, .int x), (0, .ref h0)] [] (W f)) :
    ∀ (fuel i : Nat) (f : Nat → Int32), i + fuel = 48 → (∀ k, k < i → f k = -1) → Kg q mX5_init h0 mc ms Post ce sl 155 [(1, .int (nI i)), (0, .ref h0)] [] (W f) := by
  intro fuel
  induction fuel with
  | zero =>
    intro i f hi hf
    have e : i = 48 := by omega
    subst e
    refine kg_iload (i := 1) (j := 0) dX5_init_155 rfl rfl ?_
    refine kg_bipush (v := nI 48) dX5_init_156 (by decide) ?_
    exact kg_icmpge (tgt := 174) dX5_init_158 (by decide) (fun _ => K f _ hf) (fun z => absurd (nI_le (Nat.le_refl 48) (by omega)) z)
  | succ fuel ih =>
    intro i f hi hf
    refine kg_iload (i := 1) (j := 0) dX5_init_155 rfl rfl ?_
    refine kg_bipush (v := nI 48) dX5_init_156 (by decide) ?_
    refine kg_icmpge (tgt := 174) dX5_init_158 (by decide) (fun z => absurd z (nI_ge (a := i) (b := 48) (by omega) (by omega))) (fun _ => ?_)
    refine kg_aload (i := 0) (j := 1) dX5_init_161 rfl rfl ?_
    refine kg_get (ci := 5) (k := 5) (j := 0) dX5_init_162 zkp_X5_20 (hobj f) hfs ?_
    refine kg_iload (i := 1) (j := 0) dX5_init_165 rfl rfl ?_
    refine kg_iconst (v := -1) dX5_init_166 (by decide) ?_
    refine kg_iast (j := j) dX5_init_167 (harr f) (vp_in_nI (by omega) (by omega)) ?_
    rw [hset, nI_clamp (by omega)]
    refine kg_iinc (v := nI (i + 1)) (lv' := [(1, .int (nI (i + 1))), (0, .ref h0)]) dX5_init_168 (k := 0) rfl (nI_add i 1) (by decide) rfl ?_
    refine kg_goto (tgt := 155) dX5_init_171 (by decide) ?_
    refine ih (i + 1) _ (by omega) (fun k hk => ?_)
    unfold upd
    by_cases e : k = i
    · rw [if_pos e]
    · rw [if_neg e]; exact hf k (by omega)
theorem lp_M2 {q : KQ} {h0 mc ms ce sl : Nat} {Post : va_W → Prop} {W : (Nat → Int32) → (Nat → Int32) → va_W} {j1 j2 a1 a2 : Nat} {fs : List Value} (hobj : ∀ f g, (W f g)[0]? = some (h0, .inr (5, fs))) (hf1 : fs[6]? = some (.ref a1)) (hf2 : fs[7]? = some (.ref a2)) (ha1 : ∀ f g, (W f g)[j1]? = some (a1, .inl (q.2.2.1, 53, .inl f))) (ha2 : ∀ f g, (W f g)[j2]? = some (a2, .inl (q.2.2.1, 53, .inl g))) (hs1 : ∀ f g f', (W f g).set j1 (a1, .inl (q.2.2.1, 53, .inl f')) = W f' g) (hs2 : ∀ f g g', (W f g).set j2 (a2, .inl (q.2.2.1, 53, .inl g')) = W f g')
    (K : ∀ (f g : Nat → Int32) (x : Int32), (∀ k, k < 53 → f k = -1) → (∀ k, k < 53 → g k = -1) → Kg q mX5_init h0 mc ms Post ce sl 202 [(1, .int x), (0, .ref h0)] [] (W f g)) :
    ∀ (fuel i : Nat) (f g : Nat → Int32), i + fuel = 53 → (∀ k, k < i → f k = -1) → (∀ k, k < i → g k = -1) → Kg q mX5_init h0 mc ms Post ce sl 176 [(1, .int (nI i)), (0, .ref h0)] [] (W f g) := by
  intro fuel
  induction fuel with
  | zero =>
    intro i f g hi hf hg
    have e : i = 53 := by omega
    subst e
    refine kg_iload (i := 1) (j := 0) dX5_init_176 rfl rfl ?_
    refine kg_bipush (v := nI 53) dX5_init_177 (by decide) ?_
    exact kg_icmpge (tgt := 202) dX5_init_179 (by decide) (fun _ => K f g _ hf hg) (fun z => absurd (nI_le (Nat.le_refl 53) (by omega)) z)
  | succ fuel ih =>
    intro i f g hi hf hg
    refine kg_iload (i := 1) (j := 0) dX5_init_176 rfl rfl ?_
    refine kg_bipush (v := nI 53) dX5_init_177 (by decide) ?_
    refine kg_icmpge (tgt := 202) dX5_init_179 (by decide) (fun z => absurd z (nI_ge (a := i) (b := 53) (by omega) (by omega))) (fun _ => ?_)
    refine kg_aload (i := 0) (j := 1) dX5_init_182 rfl rfl ?_
    refine kg_get (ci := 5) (k := 6) (j := 0) dX5_init_183 zkp_X5_23 (hobj f g) hf1 ?_
    refine kg_iload (i := 1) (j := 0) dX5_init_186 rfl rfl ?_
    refine kg_iconst (v := -1) dX5_init_187 (by decide) ?_
    refine kg_iast (j := j1) dX5_init_188 (ha1 f g) (vp_in_nI (by omega) (by omega)) ?_
    rw [hs1, nI_clamp (by omega)]
    refine kg_aload (i := 0) (j := 1) dX5_init_189 rfl rfl ?_
    refine kg_get (ci := 5) (k := 7) (j := 0) dX5_init_190 zkp_X5_26 (hobj _ g) hf2 ?_
    refine kg_iload (i := 1) (j := 0) dX5_init_193 rfl rfl ?_
    refine kg_iconst (v := -1) dX5_init_194 (by decide) ?_
    refine kg_iast (j := j2) dX5_init_195 (ha2 _ g) (vp_in_nI (by omega) (by omega)) ?_
    rw [hs2, nI_clamp (by omega)]
    refine kg_iinc (v := nI (i + 1)) (lv' := [(1, .int (nI (i + 1))), (0, .ref h0)]) dX5_init_196 (k := 0) rfl (nI_add i 1) (by decide) rfl ?_
    refine kg_goto (tgt := 176) dX5_init_199 (by decide) ?_
    refine ih (i + 1) _ _ (by omega) (fun k hk => ?_) (fun k hk => ?_)
    · unfold upd
      by_cases e : k = i
      · rw [if_pos e]
      · rw [if_neg e]; exact hf k (by omega)
    · unfold upd
      by_cases e : k = i
      · rw [if_pos e]
      · rw [if_neg e]; exact hg k (by omega)
/-- the reference's memory at its start -/
def zM0 (N : Mem) : Prop := (∀ k, k < 48 → N 3 k = -1) ∧ (∀ k, N 2 k = 0) ∧ (∀ k, k < 53 → N 4 k = -1) ∧ (∀ k, k < 53 → N 5 k = -1) ∧ (∀ k, N 7 k = 0) ∧ (∀ k, N 6 k = 0) ∧ (∀ k, k < 4 → N 1 k = 1) ∧ (∀ k, N 8 k = 0) ∧ (∀ k, N 9 k = 0) ∧ (∀ k, N 10 k = 0) ∧ (∀ k, N 11 k = 0) ∧ N 0 1 = 1 ∧ N 0 2 = 0
def Pst_X5_init (q : KQ) (h0 : Nat) (ws : va_W) : Prop := ∃ (a : Nat → Nat) (M : Mem), ws = zws (zgM (q.1, q.2.1, q.2.2, a)) M ∧ a 0 = h0 ∧ zM0 M
theorem zkp_X5_7 : zkp RX5 7 5 1 (.int) := ⟨RX5, TX5, 20, tyX5, rfl, zu_X5, by decide, (zm3 216 (by decide +kernel) rfl), tyX5_ok, nmX5, Or.inl rfl, by decide +kernel⟩
theorem zkp_X5_13 : zkp RX5 13 5 3 (.array .int) := ⟨RX5, TX5, 20, tyX5, rfl, zu_X5, by decide, (zm3 218 (by decide +kernel) rfl), tyX5_ok, nmX5, Or.inr ⟨rfl, rfl⟩, by decide +kernel⟩
theorem zkp_X5_17 : zkp RX5 17 5 4 (.array .int) := ⟨RX5, TX5, 20, tyX5, rfl, zu_X5, by decide, (zm3 219 (by decide +kernel) rfl), tyX5_ok, nmX5, Or.inr ⟨rfl, rfl⟩, by decide +kernel⟩
theorem zkp_X5_29 : zkp RX5 29 5 8 (.array .int) := ⟨RX5, TX5, 20, tyX5, rfl, zu_X5, by decide, (zm3 223 (by decide +kernel) rfl), tyX5_ok, nmX5, Or.inr ⟨rfl, rfl⟩, by decide +kernel⟩
theorem zkp_X5_32 : zkp RX5 32 5 9 (.array .int) := ⟨RX5, TX5, 20, tyX5, rfl, zu_X5, by decide, (zm3 224 (by decide +kernel) rfl), tyX5_ok, nmX5, Or.inr ⟨rfl, rfl⟩, by decide +kernel⟩
theorem zkp_X5_35 : zkp RX5 35 5 10 (.array .boolean) := ⟨RX5, TX5, 20, tyX5, rfl, zu_X5, by decide, (zm3 225 (by decide +kernel) rfl), tyX5_ok, nmX5, Or.inr ⟨rfl, rfl⟩, by decide +kernel⟩
theorem zkp_X5_39 : zkp RX5 39 5 11 (.array .boolean) := ⟨RX5, TX5, 20, tyX5, rfl, zu_X5, by decide, (zm3 226 (by decide +kernel) rfl), tyX5_ok, nmX5, Or.inr ⟨rfl, rfl⟩, by decide +kernel⟩
theorem zkp_X5_42 : zkp RX5 42 5 12 (.array .boolean) := ⟨RX5, TX5, 20, tyX5, rfl, zu_X5, by decide, (zm3 227 (by decide +kernel) rfl), tyX5_ok, nmX5, Or.inr ⟨rfl, rfl⟩, by decide +kernel⟩
theorem zkp_X5_45 : zkp RX5 45 5 13 (.array .int) := ⟨RX5, TX5, 20, tyX5, rfl, zu_X5, by decide, (zm3 228 (by decide +kernel) rfl), tyX5_ok, nmX5, Or.inr ⟨rfl, rfl⟩, by decide +kernel⟩
theorem zkp_X5_48 : zkp RX5 48 5 14 (.array .boolean) := ⟨RX5, TX5, 20, tyX5, rfl, zu_X5, by decide, (zm3 229 (by decide +kernel) rfl), tyX5_ok, nmX5, Or.inr ⟨rfl, rfl⟩, by decide +kernel⟩
theorem zkp_X5_51 : zkp RX5 51 5 15 (.array .boolean) := ⟨RX5, TX5, 20, tyX5, rfl, zu_X5, by decide, (zm3 230 (by decide +kernel) rfl), tyX5_ok, nmX5, Or.inr ⟨rfl, rfl⟩, by decide +kernel⟩
theorem zkp_X5_54 : zkp RX5 54 5 16 (.array .int) := ⟨RX5, TX5, 20, tyX5, rfl, zu_X5, by decide, (zm3 231 (by decide +kernel) rfl), tyX5_ok, nmX5, Or.inr ⟨rfl, rfl⟩, by decide +kernel⟩
theorem zkp_X5_57 : zkp RX5 57 5 17 (.array .int) := ⟨RX5, TX5, 20, tyX5, rfl, zu_X5, by decide, (zm3 232 (by decide +kernel) rfl), tyX5_ok, nmX5, Or.inr ⟨rfl, rfl⟩, by decide +kernel⟩
theorem zkp_X5_60 : zkp RX5 60 5 18 (.array .boolean) := ⟨RX5, TX5, 20, tyX5, rfl, zu_X5, by decide, (zm3 233 (by decide +kernel) rfl), tyX5_ok, nmX5, Or.inr ⟨rfl, rfl⟩, by decide +kernel⟩
set_option maxRecDepth 100000 in
set_option maxHeartbeats 4000000 in
theorem c_X5_init (q : KQ) : Kc q mX5_init 16 1083 (.inr (5, [.int 0, .int 0, .int 0, .null, .null, .null, .null, .null, .null, .null, .null, .null, .null, .null, .null, .null, .null, .null, .null, .int 0])) (Pst_X5_init q) := by
  refine Kc.of (by decide) rfl rfl (by decide) (fun h0 => ?_)
  refine kg_aload (i := 0) (j := 0) dX5_init_0 rfl rfl ?_
  refine kg_obj dX5_init_1 (zm3 214 (by decide +kernel) rfl) (zm1 20 (by decide +kernel) rfl) (zm1 21 (by decide +kernel) rfl) ⟨(Nat.le_of_ble_eq_true rfl), (Nat.le_of_ble_eq_true rfl)⟩ ?_
  refine kg_aload (i := 0) (j := 0) dX5_init_4 rfl rfl ?_
  refine kg_iconst (v := 1) dX5_init_5 (by decide) ?_
  refine kg_put (ci := 5) (k := 1) (j := 0) (v := .int 1) dX5_init_6 zkp_X5_7 rfl (Nat.le_of_ble_eq_true rfl) rfl rfl ?_
  refine kg_ws (ws' := [(h0, .inr (5, [.int 0, .int 1, .int 0, .null, .null, .null, .null, .null, .null, .null, .null, .null, .null, .null, .null, .null, .null, .null, .null, .int 0]))]) rfl ?_
  refine kg_aload (i := 0) (j := 0) dX5_init_9 rfl rfl ?_
  refine kg_iconst (v := 4) dX5_init_10 (by decide) ?_
  refine kg_newI (N := 4) dX5_init_11 (zm1 42 (by decide +kernel) rfl) (by decide) (by decide) (Nat.le_of_ble_eq_true rfl) (Nat.le_of_ble_eq_true rfl) (Nat.le_of_ble_eq_true rfl) (fun a1 => ?_)
  refine kg_ws (ws' := [(h0, .inr (5, [.int 0, .int 1, .int 0, .null, .null, .null, .null, .null, .null, .null, .null, .null, .null, .null, .null, .null, .null, .null, .null, .int 0])), (a1, .inl (q.2.2.1, 4, .inl (fun _ => 0)))]) rfl ?_
  refine kg_dup dX5_init_13 ?_
  refine kg_iconst (v := 0) dX5_init_14 (by decide) ?_
  refine kg_iconst (v := 1) dX5_init_15 (by decide) ?_
  refine kg_iast (j := 1) dX5_init_16 rfl (vp_in_nI (n := 0) (by decide) (by decide)) ?_
  refine kg_ws (ws' := [(h0, .inr (5, [.int 0, .int 1, .int 0, .null, .null, .null, .null, .null, .null, .null, .null, .null, .null, .null, .null, .null, .null, .null, .null, .int 0])), (a1, .inl (q.2.2.1, 4, .inl (upd (fun _ => 0) (0 : Int32).toNatClampNeg 1)))]) rfl ?_
  refine kg_dup dX5_init_17 ?_
  refine kg_iconst (v := 1) dX5_init_18 (by decide) ?_
  refine kg_iconst (v := 1) dX5_init_19 (by decide) ?_
  refine kg_iast (j := 1) dX5_init_20 rfl (vp_in_nI (n := 1) (by decide) (by decide)) ?_
  refine kg_ws (ws' := [(h0, .inr (5, [.int 0, .int 1, .int 0, .null, .null, .null, .null, .null, .null, .null, .null, .null, .null, .null, .null, .null, .null, .null, .null, .int 0])), (a1, .inl (q.2.2.1, 4, .inl (upd (upd (fun _ => 0) (0 : Int32).toNatClampNeg 1) (1 : Int32).toNatClampNeg 1)))]) rfl ?_
  refine kg_dup dX5_init_21 ?_
  refine kg_iconst (v := 2) dX5_init_22 (by decide) ?_
  refine kg_iconst (v := 1) dX5_init_23 (by decide) ?_
  refine kg_iast (j := 1) dX5_init_24 rfl (vp_in_nI (n := 2) (by decide) (by decide)) ?_
  refine kg_ws (ws' := [(h0, .inr (5, [.int 0, .int 1, .int 0, .null, .null, .null, .null, .null, .null, .null, .null, .null, .null, .null, .null, .null, .null, .null, .null, .int 0])), (a1, .inl (q.2.2.1, 4, .inl (upd (upd (upd (fun _ => 0) (0 : Int32).toNatClampNeg 1) (1 : Int32).toNatClampNeg 1) (2 : Int32).toNatClampNeg 1)))]) rfl ?_
  refine kg_dup dX5_init_25 ?_
  refine kg_iconst (v := 3) dX5_init_26 (by decide) ?_
  refine kg_iconst (v := 1) dX5_init_27 (by decide) ?_
  refine kg_iast (j := 1) dX5_init_28 rfl (vp_in_nI (n := 3) (by decide) (by decide)) ?_
  refine kg_ws (ws' := [(h0, .inr (5, [.int 0, .int 1, .int 0, .null, .null, .null, .null, .null, .null, .null, .null, .null, .null, .null, .null, .null, .null, .null, .null, .int 0])), (a1, .inl (q.2.2.1, 4, .inl (upd (upd (upd (upd (fun _ => 0) (0 : Int32).toNatClampNeg 1) (1 : Int32).toNatClampNeg 1) (2 : Int32).toNatClampNeg 1) (3 : Int32).toNatClampNeg 1)))]) rfl ?_
  refine kg_put (ci := 5) (k := 3) (j := 0) (v := .ref a1) dX5_init_29 zkp_X5_13 rfl (Nat.le_of_ble_eq_true rfl) rfl rfl ?_
  refine kg_ws (ws' := [(h0, .inr (5, [.int 0, .int 1, .int 0, .ref a1, .null, .null, .null, .null, .null, .null, .null, .null, .null, .null, .null, .null, .null, .null, .null, .int 0])), (a1, .inl (q.2.2.1, 4, .inl (upd (upd (upd (upd (fun _ => 0) (0 : Int32).toNatClampNeg 1) (1 : Int32).toNatClampNeg 1) (2 : Int32).toNatClampNeg 1) (3 : Int32).toNatClampNeg 1)))]) rfl ?_
  refine kg_aload (i := 0) (j := 0) dX5_init_32 rfl rfl ?_
  refine kg_bipush (v := 48) dX5_init_33 (by decide) ?_
  refine kg_newI (N := 48) dX5_init_35 (zm1 42 (by decide +kernel) rfl) (by decide) (by decide) (Nat.le_of_ble_eq_true rfl) (Nat.le_of_ble_eq_true rfl) (Nat.le_of_ble_eq_true rfl) (fun a2 => ?_)
  refine kg_ws (ws' := [(h0, .inr (5, [.int 0, .int 1, .int 0, .ref a1, .null, .null, .null, .null, .null, .null, .null, .null, .null, .null, .null, .null, .null, .null, .null, .int 0])), (a1, .inl (q.2.2.1, 4, .inl (upd (upd (upd (upd (fun _ => 0) (0 : Int32).toNatClampNeg 1) (1 : Int32).toNatClampNeg 1) (2 : Int32).toNatClampNeg 1) (3 : Int32).toNatClampNeg 1))), (a2, .inl (q.2.2.1, 48, .inl (fun _ => 0)))]) rfl ?_
  refine kg_put (ci := 5) (k := 4) (j := 0) (v := .ref a2) dX5_init_37 zkp_X5_17 rfl (Nat.le_of_ble_eq_true rfl) rfl rfl ?_
  refine kg_ws (ws' := [(h0, .inr (5, [.int 0, .int 1, .int 0, .ref a1, .ref a2, .null, .null, .null, .null, .null, .null, .null, .null, .null, .null, .null, .null, .null, .null, .int 0])), (a1, .inl (q.2.2.1, 4, .inl (upd (upd (upd (upd (fun _ => 0) (0 : Int32).toNatClampNeg 1) (1 : Int32).toNatClampNeg 1) (2 : Int32).toNatClampNeg 1) (3 : Int32).toNatClampNeg 1))), (a2, .inl (q.2.2.1, 48, .inl (fun _ => 0)))]) rfl ?_
  refine kg_aload (i := 0) (j := 0) dX5_init_40 rfl rfl ?_
  refine kg_bipush (v := 48) dX5_init_41 (by decide) ?_
  refine kg_newI (N := 48) dX5_init_43 (zm1 42 (by decide +kernel) rfl) (by decide) (by decide) (Nat.le_of_ble_eq_true rfl) (Nat.le_of_ble_eq_true rfl) (Nat.le_of_ble_eq_true rfl) (fun a3 => ?_)
  refine kg_ws (ws' := [(h0, .inr (5, [.int 0, .int 1, .int 0, .ref a1, .ref a2, .null, .null, .null, .null, .null, .null, .null, .null, .null, .null, .null, .null, .null, .null, .int 0])), (a1, .inl (q.2.2.1, 4, .inl (upd (upd (upd (upd (fun _ => 0) (0 : Int32).toNatClampNeg 1) (1 : Int32).toNatClampNeg 1) (2 : Int32).toNatClampNeg 1) (3 : Int32).toNatClampNeg 1))), (a2, .inl (q.2.2.1, 48, .inl (fun _ => 0))), (a3, .inl (q.2.2.1, 48, .inl (fun _ => 0)))]) rfl ?_
  refine kg_put (ci := 5) (k := 5) (j := 0) (v := .ref a3) dX5_init_45 zkp_X5_20 rfl (Nat.le_of_ble_eq_true rfl) rfl rfl ?_
  refine kg_ws (ws' := [(h0, .inr (5, [.int 0, .int 1, .int 0, .ref a1, .ref a2, .ref a3, .null, .null, .null, .null, .null, .null, .null, .null, .null, .null, .null, .null, .null, .int 0])), (a1, .inl (q.2.2.1, 4, .inl (upd (upd (upd (upd (fun _ => 0) (0 : Int32).toNatClampNeg 1) (1 : Int32).toNatClampNeg 1) (2 : Int32).toNatClampNeg 1) (3 : Int32).toNatClampNeg 1))), (a2, .inl (q.2.2.1, 48, .inl (fun _ => 0))), (a3, .inl (q.2.2.1, 48, .inl (fun _ => 0)))]) rfl ?_
  refine kg_aload (i := 0) (j := 0) dX5_init_48 rfl rfl ?_
  refine kg_bipush (v := 53) dX5_init_49 (by decide) ?_
  refine kg_newI (N := 53) dX5_init_51 (zm1 42 (by decide +kernel) rfl) (by decide) (by decide) (Nat.le_of_ble_eq_true rfl) (Nat.le_of_ble_eq_true rfl) (Nat.le_of_ble_eq_true rfl) (fun a4 => ?_)
  refine kg_ws (ws' := [(h0, .inr (5, [.int 0, .int 1, .int 0, .ref a1, .ref a2, .ref a3, .null, .null, .null, .null, .null, .null, .null, .null, .null, .null, .null, .null, .null, .int 0])), (a1, .inl (q.2.2.1, 4, .inl (upd (upd (upd (upd (fun _ => 0) (0 : Int32).toNatClampNeg 1) (1 : Int32).toNatClampNeg 1) (2 : Int32).toNatClampNeg 1) (3 : Int32).toNatClampNeg 1))), (a2, .inl (q.2.2.1, 48, .inl (fun _ => 0))), (a3, .inl (q.2.2.1, 48, .inl (fun _ => 0))), (a4, .inl (q.2.2.1, 53, .inl (fun _ => 0)))]) rfl ?_
  refine kg_put (ci := 5) (k := 6) (j := 0) (v := .ref a4) dX5_init_53 zkp_X5_23 rfl (Nat.le_of_ble_eq_true rfl) rfl rfl ?_
  refine kg_ws (ws' := [(h0, .inr (5, [.int 0, .int 1, .int 0, .ref a1, .ref a2, .ref a3, .ref a4, .null, .null, .null, .null, .null, .null, .null, .null, .null, .null, .null, .null, .int 0])), (a1, .inl (q.2.2.1, 4, .inl (upd (upd (upd (upd (fun _ => 0) (0 : Int32).toNatClampNeg 1) (1 : Int32).toNatClampNeg 1) (2 : Int32).toNatClampNeg 1) (3 : Int32).toNatClampNeg 1))), (a2, .inl (q.2.2.1, 48, .inl (fun _ => 0))), (a3, .inl (q.2.2.1, 48, .inl (fun _ => 0))), (a4, .inl (q.2.2.1, 53, .inl (fun _ => 0)))]) rfl ?_
  refine kg_aload (i := 0) (j := 0) dX5_init_56 rfl rfl ?_
  refine kg_bipush (v := 53) dX5_init_57 (by decide) ?_
  refine kg_newI (N := 53) dX5_init_59 (zm1 42 (by decide +kernel) rfl) (by decide) (by decide) (Nat.le_of_ble_eq_true rfl) (Nat.le_of_ble_eq_true rfl) (Nat.le_of_ble_eq_true rfl) (fun a5 => ?_)
  refine kg_ws (ws' := [(h0, .inr (5, [.int 0, .int 1, .int 0, .ref a1, .ref a2, .ref a3, .ref a4, .null, .null, .null, .null, .null, .null, .null, .null, .null, .null, .null, .null, .int 0])), (a1, .inl (q.2.2.1, 4, .inl (upd (upd (upd (upd (fun _ => 0) (0 : Int32).toNatClampNeg 1) (1 : Int32).toNatClampNeg 1) (2 : Int32).toNatClampNeg 1) (3 : Int32).toNatClampNeg 1))), (a2, .inl (q.2.2.1, 48, .inl (fun _ => 0))), (a3, .inl (q.2.2.1, 48, .inl (fun _ => 0))), (a4, .inl (q.2.2.1, 53, .inl (fun _ => 0))), (a5, .inl (q.2.2.1, 53, .inl (fun _ => 0)))]) rfl ?_
  refine kg_put (ci := 5) (k := 7) (j := 0) (v := .ref a5) dX5_init_61 zkp_X5_26 rfl (Nat.le_of_ble_eq_true rfl) rfl rfl ?_
  refine kg_ws (ws' := [(h0, .inr (5, [.int 0, .int 1, .int 0, .ref a1, .ref a2, .ref a3, .ref a4, .ref a5, .null, .null, .null, .null, .null, .null, .null, .null, .null, .null, .null, .int 0])), (a1, .inl (q.2.2.1, 4, .inl (upd (upd (upd (upd (fun _ => 0) (0 : Int32).toNatClampNeg 1) (1 : Int32).toNatClampNeg 1) (2 : Int32).toNatClampNeg 1) (3 : Int32).toNatClampNeg 1))), (a2, .inl (q.2.2.1, 48, .inl (fun _ => 0))), (a3, .inl (q.2.2.1, 48, .inl (fun _ => 0))), (a4, .inl (q.2.2.1, 53, .inl (fun _ => 0))), (a5, .inl (q.2.2.1, 53, .inl (fun _ => 0)))]) rfl ?_
  refine kg_aload (i := 0) (j := 0) dX5_init_64 rfl rfl ?_
  refine kg_bipush (v := 53) dX5_init_65 (by decide) ?_
  refine kg_newI (N := 53) dX5_init_67 (zm1 42 (by decide +kernel) rfl) (by decide) (by decide) (Nat.le_of_ble_eq_true rfl) (Nat.le_of_ble_eq_true rfl) (Nat.le_of_ble_eq_true rfl) (fun a6 => ?_)
  refine kg_ws (ws' := [(h0, .inr (5, [.int 0, .int 1, .int 0, .ref a1, .ref a2, .ref a3, .ref a4, .ref a5, .null, .null, .null, .null, .null, .null, .null, .null, .null, .null, .null, .int 0])), (a1, .inl (q.2.2.1, 4, .inl (upd (upd (upd (upd (fun _ => 0) (0 : Int32).toNatClampNeg 1) (1 : Int32).toNatClampNeg 1) (2 : Int32).toNatClampNeg 1) (3 : Int32).toNatClampNeg 1))), (a2, .inl (q.2.2.1, 48, .inl (fun _ => 0))), (a3, .inl (q.2.2.1, 48, .inl (fun _ => 0))), (a4, .inl (q.2.2.1, 53, .inl (fun _ => 0))), (a5, .inl (q.2.2.1, 53, .inl (fun _ => 0))), (a6, .inl (q.2.2.1, 53, .inl (fun _ => 0)))]) rfl ?_
  refine kg_put (ci := 5) (k := 8) (j := 0) (v := .ref a6) dX5_init_69 zkp_X5_29 rfl (Nat.le_of_ble_eq_true rfl) rfl rfl ?_
  refine kg_ws (ws' := [(h0, .inr (5, [.int 0, .int 1, .int 0, .ref a1, .ref a2, .ref a3, .ref a4, .ref a5, .ref a6, .null, .null, .null, .null, .null, .null, .null, .null, .null, .null, .int 0])), (a1, .inl (q.2.2.1, 4, .inl (upd (upd (upd (upd (fun _ => 0) (0 : Int32).toNatClampNeg 1) (1 : Int32).toNatClampNeg 1) (2 : Int32).toNatClampNeg 1) (3 : Int32).toNatClampNeg 1))), (a2, .inl (q.2.2.1, 48, .inl (fun _ => 0))), (a3, .inl (q.2.2.1, 48, .inl (fun _ => 0))), (a4, .inl (q.2.2.1, 53, .inl (fun _ => 0))), (a5, .inl (q.2.2.1, 53, .inl (fun _ => 0))), (a6, .inl (q.2.2.1, 53, .inl (fun _ => 0)))]) rfl ?_
  refine kg_aload (i := 0) (j := 0) dX5_init_72 rfl rfl ?_
  refine kg_bipush (v := 53) dX5_init_73 (by decide) ?_
  refine kg_newI (N := 53) dX5_init_75 (zm1 42 (by decide +kernel) rfl) (by decide) (by decide) (Nat.le_of_ble_eq_true rfl) (Nat.le_of_ble_eq_true rfl) (Nat.le_of_ble_eq_true rfl) (fun a7 => ?_)
  refine kg_ws (ws' := [(h0, .inr (5, [.int 0, .int 1, .int 0, .ref a1, .ref a2, .ref a3, .ref a4, .ref a5, .ref a6, .null, .null, .null, .null, .null, .null, .null, .null, .null, .null, .int 0])), (a1, .inl (q.2.2.1, 4, .inl (upd (upd (upd (upd (fun _ => 0) (0 : Int32).toNatClampNeg 1) (1 : Int32).toNatClampNeg 1) (2 : Int32).toNatClampNeg 1) (3 : Int32).toNatClampNeg 1))), (a2, .inl (q.2.2.1, 48, .inl (fun _ => 0))), (a3, .inl (q.2.2.1, 48, .inl (fun _ => 0))), (a4, .inl (q.2.2.1, 53, .inl (fun _ => 0))), (a5, .inl (q.2.2.1, 53, .inl (fun _ => 0))), (a6, .inl (q.2.2.1, 53, .inl (fun _ => 0))), (a7, .inl (q.2.2.1, 53, .inl (fun _ => 0)))]) rfl ?_
  refine kg_put (ci := 5) (k := 9) (j := 0) (v := .ref a7) dX5_init_77 zkp_X5_32 rfl (Nat.le_of_ble_eq_true rfl) rfl rfl ?_
  refine kg_ws (ws' := [(h0, .inr (5, [.int 0, .int 1, .int 0, .ref a1, .ref a2, .ref a3, .ref a4, .ref a5, .ref a6, .ref a7, .null, .null, .null, .null, .null, .null, .null, .null, .null, .int 0])), (a1, .inl (q.2.2.1, 4, .inl (upd (upd (upd (upd (fun _ => 0) (0 : Int32).toNatClampNeg 1) (1 : Int32).toNatClampNeg 1) (2 : Int32).toNatClampNeg 1) (3 : Int32).toNatClampNeg 1))), (a2, .inl (q.2.2.1, 48, .inl (fun _ => 0))), (a3, .inl (q.2.2.1, 48, .inl (fun _ => 0))), (a4, .inl (q.2.2.1, 53, .inl (fun _ => 0))), (a5, .inl (q.2.2.1, 53, .inl (fun _ => 0))), (a6, .inl (q.2.2.1, 53, .inl (fun _ => 0))), (a7, .inl (q.2.2.1, 53, .inl (fun _ => 0)))]) rfl ?_
  refine kg_aload (i := 0) (j := 0) dX5_init_80 rfl rfl ?_
  refine kg_bipush (v := 120) dX5_init_81 (by decide) ?_
  refine kg_newB (N := 120) dX5_init_83 (zm1 41 (by decide +kernel) rfl) (by decide) (by decide) (Nat.le_of_ble_eq_true rfl) (Nat.le_of_ble_eq_true rfl) (Nat.le_of_ble_eq_true rfl) (fun a8 => ?_)
  refine kg_ws (ws' := [(h0, .inr (5, [.int 0, .int 1, .int 0, .ref a1, .ref a2, .ref a3, .ref a4, .ref a5, .ref a6, .ref a7, .null, .null, .null, .null, .null, .null, .null, .null, .null, .int 0])), (a1, .inl (q.2.2.1, 4, .inl (upd (upd (upd (upd (fun _ => 0) (0 : Int32).toNatClampNeg 1) (1 : Int32).toNatClampNeg 1) (2 : Int32).toNatClampNeg 1) (3 : Int32).toNatClampNeg 1))), (a2, .inl (q.2.2.1, 48, .inl (fun _ => 0))), (a3, .inl (q.2.2.1, 48, .inl (fun _ => 0))), (a4, .inl (q.2.2.1, 53, .inl (fun _ => 0))), (a5, .inl (q.2.2.1, 53, .inl (fun _ => 0))), (a6, .inl (q.2.2.1, 53, .inl (fun _ => 0))), (a7, .inl (q.2.2.1, 53, .inl (fun _ => 0))), (a8, .inl (q.2.2.2, 120, .inl (fun _ => 0)))]) rfl ?_
  refine kg_put (ci := 5) (k := 10) (j := 0) (v := .ref a8) dX5_init_85 zkp_X5_35 rfl (Nat.le_of_ble_eq_true rfl) rfl rfl ?_
  refine kg_ws (ws' := [(h0, .inr (5, [.int 0, .int 1, .int 0, .ref a1, .ref a2, .ref a3, .ref a4, .ref a5, .ref a6, .ref a7, .ref a8, .null, .null, .null, .null, .null, .null, .null, .null, .int 0])), (a1, .inl (q.2.2.1, 4, .inl (upd (upd (upd (upd (fun _ => 0) (0 : Int32).toNatClampNeg 1) (1 : Int32).toNatClampNeg 1) (2 : Int32).toNatClampNeg 1) (3 : Int32).toNatClampNeg 1))), (a2, .inl (q.2.2.1, 48, .inl (fun _ => 0))), (a3, .inl (q.2.2.1, 48, .inl (fun _ => 0))), (a4, .inl (q.2.2.1, 53, .inl (fun _ => 0))), (a5, .inl (q.2.2.1, 53, .inl (fun _ => 0))), (a6, .inl (q.2.2.1, 53, .inl (fun _ => 0))), (a7, .inl (q.2.2.1, 53, .inl (fun _ => 0))), (a8, .inl (q.2.2.2, 120, .inl (fun _ => 0)))]) rfl ?_
  refine kg_aload (i := 0) (j := 0) dX5_init_88 rfl rfl ?_
  refine kg_sipush (v := 240) dX5_init_89 (by decide) ?_
  refine kg_newB (N := 240) dX5_init_92 (zm1 41 (by decide +kernel) rfl) (by decide) (by decide) (Nat.le_of_ble_eq_true rfl) (Nat.le_of_ble_eq_true rfl) (Nat.le_of_ble_eq_true rfl) (fun a9 => ?_)
  refine kg_ws (ws' := [(h0, .inr (5, [.int 0, .int 1, .int 0, .ref a1, .ref a2, .ref a3, .ref a4, .ref a5, .ref a6, .ref a7, .ref a8, .null, .null, .null, .null, .null, .null, .null, .null, .int 0])), (a1, .inl (q.2.2.1, 4, .inl (upd (upd (upd (upd (fun _ => 0) (0 : Int32).toNatClampNeg 1) (1 : Int32).toNatClampNeg 1) (2 : Int32).toNatClampNeg 1) (3 : Int32).toNatClampNeg 1))), (a2, .inl (q.2.2.1, 48, .inl (fun _ => 0))), (a3, .inl (q.2.2.1, 48, .inl (fun _ => 0))), (a4, .inl (q.2.2.1, 53, .inl (fun _ => 0))), (a5, .inl (q.2.2.1, 53, .inl (fun _ => 0))), (a6, .inl (q.2.2.1, 53, .inl (fun _ => 0))), (a7, .inl (q.2.2.1, 53, .inl (fun _ => 0))), (a8, .inl (q.2.2.2, 120, .inl (fun _ => 0))), (a9, .inl (q.2.2.2, 240, .inl (fun _ => 0)))]) rfl ?_
  refine kg_put (ci := 5) (k := 11) (j := 0) (v := .ref a9) dX5_init_94 zkp_X5_39 rfl (Nat.le_of_ble_eq_true rfl) rfl rfl ?_
  refine kg_ws (ws' := [(h0, .inr (5, [.int 0, .int 1, .int 0, .ref a1, .ref a2, .ref a3, .ref a4, .ref a5, .ref a6, .ref a7, .ref a8, .ref a9, .null, .null, .null, .null, .null, .null, .null, .int 0])), (a1, .inl (q.2.2.1, 4, .inl (upd (upd (upd (upd (fun _ => 0) (0 : Int32).toNatClampNeg 1) (1 : Int32).toNatClampNeg 1) (2 : Int32).toNatClampNeg 1) (3 : Int32).toNatClampNeg 1))), (a2, .inl (q.2.2.1, 48, .inl (fun _ => 0))), (a3, .inl (q.2.2.1, 48, .inl (fun _ => 0))), (a4, .inl (q.2.2.1, 53, .inl (fun _ => 0))), (a5, .inl (q.2.2.1, 53, .inl (fun _ => 0))), (a6, .inl (q.2.2.1, 53, .inl (fun _ => 0))), (a7, .inl (q.2.2.1, 53, .inl (fun _ => 0))), (a8, .inl (q.2.2.2, 120, .inl (fun _ => 0))), (a9, .inl (q.2.2.2, 240, .inl (fun _ => 0)))]) rfl ?_
  refine kg_aload (i := 0) (j := 0) dX5_init_97 rfl rfl ?_
  refine kg_bipush (v := 6) dX5_init_98 (by decide) ?_
  refine kg_newB (N := 6) dX5_init_100 (zm1 41 (by decide +kernel) rfl) (by decide) (by decide) (Nat.le_of_ble_eq_true rfl) (Nat.le_of_ble_eq_true rfl) (Nat.le_of_ble_eq_true rfl) (fun a10 => ?_)
  refine kg_ws (ws' := [(h0, .inr (5, [.int 0, .int 1, .int 0, .ref a1, .ref a2, .ref a3, .ref a4, .ref a5, .ref a6, .ref a7, .ref a8, .ref a9, .null, .null, .null, .null, .null, .null, .null, .int 0])), (a1, .inl (q.2.2.1, 4, .inl (upd (upd (upd (upd (fun _ => 0) (0 : Int32).toNatClampNeg 1) (1 : Int32).toNatClampNeg 1) (2 : Int32).toNatClampNeg 1) (3 : Int32).toNatClampNeg 1))), (a2, .inl (q.2.2.1, 48, .inl (fun _ => 0))), (a3, .inl (q.2.2.1, 48, .inl (fun _ => 0))), (a4, .inl (q.2.2.1, 53, .inl (fun _ => 0))), (a5, .inl (q.2.2.1, 53, .inl (fun _ => 0))), (a6, .inl (q.2.2.1, 53, .inl (fun _ => 0))), (a7, .inl (q.2.2.1, 53, .inl (fun _ => 0))), (a8, .inl (q.2.2.2, 120, .inl (fun _ => 0))), (a9, .inl (q.2.2.2, 240, .inl (fun _ => 0))), (a10, .inl (q.2.2.2, 6, .inl (fun _ => 0)))]) rfl ?_
  refine kg_put (ci := 5) (k := 12) (j := 0) (v := .ref a10) dX5_init_102 zkp_X5_42 rfl (Nat.le_of_ble_eq_true rfl) rfl rfl ?_
  refine kg_ws (ws' := [(h0, .inr (5, [.int 0, .int 1, .int 0, .ref a1, .ref a2, .ref a3, .ref a4, .ref a5, .ref a6, .ref a7, .ref a8, .ref a9, .ref a10, .null, .null, .null, .null, .null, .null, .int 0])), (a1, .inl (q.2.2.1, 4, .inl (upd (upd (upd (upd (fun _ => 0) (0 : Int32).toNatClampNeg 1) (1 : Int32).toNatClampNeg 1) (2 : Int32).toNatClampNeg 1) (3 : Int32).toNatClampNeg 1))), (a2, .inl (q.2.2.1, 48, .inl (fun _ => 0))), (a3, .inl (q.2.2.1, 48, .inl (fun _ => 0))), (a4, .inl (q.2.2.1, 53, .inl (fun _ => 0))), (a5, .inl (q.2.2.1, 53, .inl (fun _ => 0))), (a6, .inl (q.2.2.1, 53, .inl (fun _ => 0))), (a7, .inl (q.2.2.1, 53, .inl (fun _ => 0))), (a8, .inl (q.2.2.2, 120, .inl (fun _ => 0))), (a9, .inl (q.2.2.2, 240, .inl (fun _ => 0))), (a10, .inl (q.2.2.2, 6, .inl (fun _ => 0)))]) rfl ?_
  refine kg_aload (i := 0) (j := 0) dX5_init_105 rfl rfl ?_
  refine kg_bipush (v := 6) dX5_init_106 (by decide) ?_
  refine kg_newI (N := 6) dX5_init_108 (zm1 42 (by decide +kernel) rfl) (by decide) (by decide) (Nat.le_of_ble_eq_true rfl) (Nat.le_of_ble_eq_true rfl) (Nat.le_of_ble_eq_true rfl) (fun a11 => ?_)
  refine kg_ws (ws' := [(h0, .inr (5, [.int 0, .int 1, .int 0, .ref a1, .ref a2, .ref a3, .ref a4, .ref a5, .ref a6, .ref a7, .ref a8, .ref a9, .ref a10, .null, .null, .null, .null, .null, .null, .int 0])), (a1, .inl (q.2.2.1, 4, .inl (upd (upd (upd (upd (fun _ => 0) (0 : Int32).toNatClampNeg 1) (1 : Int32).toNatClampNeg 1) (2 : Int32).toNatClampNeg 1) (3 : Int32).toNatClampNeg 1))), (a2, .inl (q.2.2.1, 48, .inl (fun _ => 0))), (a3, .inl (q.2.2.1, 48, .inl (fun _ => 0))), (a4, .inl (q.2.2.1, 53, .inl (fun _ => 0))), (a5, .inl (q.2.2.1, 53, .inl (fun _ => 0))), (a6, .inl (q.2.2.1, 53, .inl (fun _ => 0))), (a7, .inl (q.2.2.1, 53, .inl (fun _ => 0))), (a8, .inl (q.2.2.2, 120, .inl (fun _ => 0))), (a9, .inl (q.2.2.2, 240, .inl (fun _ => 0))), (a10, .inl (q.2.2.2, 6, .inl (fun _ => 0))), (a11, .inl (q.2.2.1, 6, .inl (fun _ => 0)))]) rfl ?_
  refine kg_put (ci := 5) (k := 13) (j := 0) (v := .ref a11) dX5_init_110 zkp_X5_45 rfl (Nat.le_of_ble_eq_true rfl) rfl rfl ?_
  refine kg_ws (ws' := [(h0, .inr (5, [.int 0, .int 1, .int 0, .ref a1, .ref a2, .ref a3, .ref a4, .ref a5, .ref a6, .ref a7, .ref a8, .ref a9, .ref a10, .ref a11, .null, .null, .null, .null, .null, .int 0])), (a1, .inl (q.2.2.1, 4, .inl (upd (upd (upd (upd (fun _ => 0) (0 : Int32).toNatClampNeg 1) (1 : Int32).toNatClampNeg 1) (2 : Int32).toNatClampNeg 1) (3 : Int32).toNatClampNeg 1))), (a2, .inl (q.2.2.1, 48, .inl (fun _ => 0))), (a3, .inl (q.2.2.1, 48, .inl (fun _ => 0))), (a4, .inl (q.2.2.1, 53, .inl (fun _ => 0))), (a5, .inl (q.2.2.1, 53, .inl (fun _ => 0))), (a6, .inl (q.2.2.1, 53, .inl (fun _ => 0))), (a7, .inl (q.2.2.1, 53, .inl (fun _ => 0))), (a8, .inl (q.2.2.2, 120, .inl (fun _ => 0))), (a9, .inl (q.2.2.2, 240, .inl (fun _ => 0))), (a10, .inl (q.2.2.2, 6, .inl (fun _ => 0))), (a11, .inl (q.2.2.1, 6, .inl (fun _ => 0)))]) rfl ?_
  refine kg_aload (i := 0) (j := 0) dX5_init_113 rfl rfl ?_
  refine kg_bipush (v := 120) dX5_init_114 (by decide) ?_
  refine kg_newB (N := 120) dX5_init_116 (zm1 41 (by decide +kernel) rfl) (by decide) (by decide) (Nat.le_of_ble_eq_true rfl) (Nat.le_of_ble_eq_true rfl) (Nat.le_of_ble_eq_true rfl) (fun a12 => ?_)
  refine kg_ws (ws' := [(h0, .inr (5, [.int 0, .int 1, .int 0, .ref a1, .ref a2, .ref a3, .ref a4, .ref a5, .ref a6, .ref a7, .ref a8, .ref a9, .ref a10, .ref a11, .null, .null, .null, .null, .null, .int 0])), (a1, .inl (q.2.2.1, 4, .inl (upd (upd (upd (upd (fun _ => 0) (0 : Int32).toNatClampNeg 1) (1 : Int32).toNatClampNeg 1) (2 : Int32).toNatClampNeg 1) (3 : Int32).toNatClampNeg 1))), (a2, .inl (q.2.2.1, 48, .inl (fun _ => 0))), (a3, .inl (q.2.2.1, 48, .inl (fun _ => 0))), (a4, .inl (q.2.2.1, 53, .inl (fun _ => 0))), (a5, .inl (q.2.2.1, 53, .inl (fun _ => 0))), (a6, .inl (q.2.2.1, 53, .inl (fun _ => 0))), (a7, .inl (q.2.2.1, 53, .inl (fun _ => 0))), (a8, .inl (q.2.2.2, 120, .inl (fun _ => 0))), (a9, .inl (q.2.2.2, 240, .inl (fun _ => 0))), (a10, .inl (q.2.2.2, 6, .inl (fun _ => 0))), (a11, .inl (q.2.2.1, 6, .inl (fun _ => 0))), (a12, .inl (q.2.2.2, 120, .inl (fun _ => 0)))]) rfl ?_
  refine kg_put (ci := 5) (k := 14) (j := 0) (v := .ref a12) dX5_init_118 zkp_X5_48 rfl (Nat.le_of_ble_eq_true rfl) rfl rfl ?_
  refine kg_ws (ws' := [(h0, .inr (5, [.int 0, .int 1, .int 0, .ref a1, .ref a2, .ref a3, .ref a4, .ref a5, .ref a6, .ref a7, .ref a8, .ref a9, .ref a10, .ref a11, .ref a12, .null, .null, .null, .null, .int 0])), (a1, .inl (q.2.2.1, 4, .inl (upd (upd (upd (upd (fun _ => 0) (0 : Int32).toNatClampNeg 1) (1 : Int32).toNatClampNeg 1) (2 : Int32).toNatClampNeg 1) (3 : Int32).toNatClampNeg 1))), (a2, .inl (q.2.2.1, 48, .inl (fun _ => 0))), (a3, .inl (q.2.2.1, 48, .inl (fun _ => 0))), (a4, .inl (q.2.2.1, 53, .inl (fun _ => 0))), (a5, .inl (q.2.2.1, 53, .inl (fun _ => 0))), (a6, .inl (q.2.2.1, 53, .inl (fun _ => 0))), (a7, .inl (q.2.2.1, 53, .inl (fun _ => 0))), (a8, .inl (q.2.2.2, 120, .inl (fun _ => 0))), (a9, .inl (q.2.2.2, 240, .inl (fun _ => 0))), (a10, .inl (q.2.2.2, 6, .inl (fun _ => 0))), (a11, .inl (q.2.2.1, 6, .inl (fun _ => 0))), (a12, .inl (q.2.2.2, 120, .inl (fun _ => 0)))]) rfl ?_
  refine kg_aload (i := 0) (j := 0) dX5_init_121 rfl rfl ?_
  refine kg_bipush (v := 120) dX5_init_122 (by decide) ?_
  refine kg_newB (N := 120) dX5_init_124 (zm1 41 (by decide +kernel) rfl) (by decide) (by decide) (Nat.le_of_ble_eq_true rfl) (Nat.le_of_ble_eq_true rfl) (Nat.le_of_ble_eq_true rfl) (fun a13 => ?_)
  refine kg_ws (ws' := [(h0, .inr (5, [.int 0, .int 1, .int 0, .ref a1, .ref a2, .ref a3, .ref a4, .ref a5, .ref a6, .ref a7, .ref a8, .ref a9, .ref a10, .ref a11, .ref a12, .null, .null, .null, .null, .int 0])), (a1, .inl (q.2.2.1, 4, .inl (upd (upd (upd (upd (fun _ => 0) (0 : Int32).toNatClampNeg 1) (1 : Int32).toNatClampNeg 1) (2 : Int32).toNatClampNeg 1) (3 : Int32).toNatClampNeg 1))), (a2, .inl (q.2.2.1, 48, .inl (fun _ => 0))), (a3, .inl (q.2.2.1, 48, .inl (fun _ => 0))), (a4, .inl (q.2.2.1, 53, .inl (fun _ => 0))), (a5, .inl (q.2.2.1, 53, .inl (fun _ => 0))), (a6, .inl (q.2.2.1, 53, .inl (fun _ => 0))), (a7, .inl (q.2.2.1, 53, .inl (fun _ => 0))), (a8, .inl (q.2.2.2, 120, .inl (fun _ => 0))), (a9, .inl (q.2.2.2, 240, .inl (fun _ => 0))), (a10, .inl (q.2.2.2, 6, .inl (fun _ => 0))), (a11, .inl (q.2.2.1, 6, .inl (fun _ => 0))), (a12, .inl (q.2.2.2, 120, .inl (fun _ => 0))), (a13, .inl (q.2.2.2, 120, .inl (fun _ => 0)))]) rfl ?_
  refine kg_put (ci := 5) (k := 15) (j := 0) (v := .ref a13) dX5_init_126 zkp_X5_51 rfl (Nat.le_of_ble_eq_true rfl) rfl rfl ?_
  refine kg_ws (ws' := [(h0, .inr (5, [.int 0, .int 1, .int 0, .ref a1, .ref a2, .ref a3, .ref a4, .ref a5, .ref a6, .ref a7, .ref a8, .ref a9, .ref a10, .ref a11, .ref a12, .ref a13, .null, .null, .null, .int 0])), (a1, .inl (q.2.2.1, 4, .inl (upd (upd (upd (upd (fun _ => 0) (0 : Int32).toNatClampNeg 1) (1 : Int32).toNatClampNeg 1) (2 : Int32).toNatClampNeg 1) (3 : Int32).toNatClampNeg 1))), (a2, .inl (q.2.2.1, 48, .inl (fun _ => 0))), (a3, .inl (q.2.2.1, 48, .inl (fun _ => 0))), (a4, .inl (q.2.2.1, 53, .inl (fun _ => 0))), (a5, .inl (q.2.2.1, 53, .inl (fun _ => 0))), (a6, .inl (q.2.2.1, 53, .inl (fun _ => 0))), (a7, .inl (q.2.2.1, 53, .inl (fun _ => 0))), (a8, .inl (q.2.2.2, 120, .inl (fun _ => 0))), (a9, .inl (q.2.2.2, 240, .inl (fun _ => 0))), (a10, .inl (q.2.2.2, 6, .inl (fun _ => 0))), (a11, .inl (q.2.2.1, 6, .inl (fun _ => 0))), (a12, .inl (q.2.2.2, 120, .inl (fun _ => 0))), (a13, .inl (q.2.2.2, 120, .inl (fun _ => 0)))]) rfl ?_
  refine kg_aload (i := 0) (j := 0) dX5_init_129 rfl rfl ?_
  refine kg_bipush (v := 53) dX5_init_130 (by decide) ?_
  refine kg_newI (N := 53) dX5_init_132 (zm1 42 (by decide +kernel) rfl) (by decide) (by decide) (Nat.le_of_ble_eq_true rfl) (Nat.le_of_ble_eq_true rfl) (Nat.le_of_ble_eq_true rfl) (fun a14 => ?_)
  refine kg_ws (ws' := [(h0, .inr (5, [.int 0, .int 1, .int 0, .ref a1, .ref a2, .ref a3, .ref a4, .ref a5, .ref a6, .ref a7, .ref a8, .ref a9, .ref a10, .ref a11, .ref a12, .ref a13, .null, .null, .null, .int 0])), (a1, .inl (q.2.2.1, 4, .inl (upd (upd (upd (upd (fun _ => 0) (0 : Int32).toNatClampNeg 1) (1 : Int32).toNatClampNeg 1) (2 : Int32).toNatClampNeg 1) (3 : Int32).toNatClampNeg 1))), (a2, .inl (q.2.2.1, 48, .inl (fun _ => 0))), (a3, .inl (q.2.2.1, 48, .inl (fun _ => 0))), (a4, .inl (q.2.2.1, 53, .inl (fun _ => 0))), (a5, .inl (q.2.2.1, 53, .inl (fun _ => 0))), (a6, .inl (q.2.2.1, 53, .inl (fun _ => 0))), (a7, .inl (q.2.2.1, 53, .inl (fun _ => 0))), (a8, .inl (q.2.2.2, 120, .inl (fun _ => 0))), (a9, .inl (q.2.2.2, 240, .inl (fun _ => 0))), (a10, .inl (q.2.2.2, 6, .inl (fun _ => 0))), (a11, .inl (q.2.2.1, 6, .inl (fun _ => 0))), (a12, .inl (q.2.2.2, 120, .inl (fun _ => 0))), (a13, .inl (q.2.2.2, 120, .inl (fun _ => 0))), (a14, .inl (q.2.2.1, 53, .inl (fun _ => 0)))]) rfl ?_
  refine kg_put (ci := 5) (k := 16) (j := 0) (v := .ref a14) dX5_init_134 zkp_X5_54 rfl (Nat.le_of_ble_eq_true rfl) rfl rfl ?_
  refine kg_ws (ws' := [(h0, .inr (5, [.int 0, .int 1, .int 0, .ref a1, .ref a2, .ref a3, .ref a4, .ref a5, .ref a6, .ref a7, .ref a8, .ref a9, .ref a10, .ref a11, .ref a12, .ref a13, .ref a14, .null, .null, .int 0])), (a1, .inl (q.2.2.1, 4, .inl (upd (upd (upd (upd (fun _ => 0) (0 : Int32).toNatClampNeg 1) (1 : Int32).toNatClampNeg 1) (2 : Int32).toNatClampNeg 1) (3 : Int32).toNatClampNeg 1))), (a2, .inl (q.2.2.1, 48, .inl (fun _ => 0))), (a3, .inl (q.2.2.1, 48, .inl (fun _ => 0))), (a4, .inl (q.2.2.1, 53, .inl (fun _ => 0))), (a5, .inl (q.2.2.1, 53, .inl (fun _ => 0))), (a6, .inl (q.2.2.1, 53, .inl (fun _ => 0))), (a7, .inl (q.2.2.1, 53, .inl (fun _ => 0))), (a8, .inl (q.2.2.2, 120, .inl (fun _ => 0))), (a9, .inl (q.2.2.2, 240, .inl (fun _ => 0))), (a10, .inl (q.2.2.2, 6, .inl (fun _ => 0))), (a11, .inl (q.2.2.1, 6, .inl (fun _ => 0))), (a12, .inl (q.2.2.2, 120, .inl (fun _ => 0))), (a13, .inl (q.2.2.2, 120, .inl (fun _ => 0))), (a14, .inl (q.2.2.1, 53, .inl (fun _ => 0)))]) rfl ?_
  refine kg_aload (i := 0) (j := 0) dX5_init_137 rfl rfl ?_
  refine kg_bipush (v := 53) dX5_init_138 (by decide) ?_
  refine kg_newI (N := 53) dX5_init_140 (zm1 42 (by decide +kernel) rfl) (by decide) (by decide) (Nat.le_of_ble_eq_true rfl) (Nat.le_of_ble_eq_true rfl) (Nat.le_of_ble_eq_true rfl) (fun a15 => ?_)
  refine kg_ws (ws' := [(h0, .inr (5, [.int 0, .int 1, .int 0, .ref a1, .ref a2, .ref a3, .ref a4, .ref a5, .ref a6, .ref a7, .ref a8, .ref a9, .ref a10, .ref a11, .ref a12, .ref a13, .ref a14, .null, .null, .int 0])), (a1, .inl (q.2.2.1, 4, .inl (upd (upd (upd (upd (fun _ => 0) (0 : Int32).toNatClampNeg 1) (1 : Int32).toNatClampNeg 1) (2 : Int32).toNatClampNeg 1) (3 : Int32).toNatClampNeg 1))), (a2, .inl (q.2.2.1, 48, .inl (fun _ => 0))), (a3, .inl (q.2.2.1, 48, .inl (fun _ => 0))), (a4, .inl (q.2.2.1, 53, .inl (fun _ => 0))), (a5, .inl (q.2.2.1, 53, .inl (fun _ => 0))), (a6, .inl (q.2.2.1, 53, .inl (fun _ => 0))), (a7, .inl (q.2.2.1, 53, .inl (fun _ => 0))), (a8, .inl (q.2.2.2, 120, .inl (fun _ => 0))), (a9, .inl (q.2.2.2, 240, .inl (fun _ => 0))), (a10, .inl (q.2.2.2, 6, .inl (fun _ => 0))), (a11, .inl (q.2.2.1, 6, .inl (fun _ => 0))), (a12, .inl (q.2.2.2, 120, .inl (fun _ => 0))), (a13, .inl (q.2.2.2, 120, .inl (fun _ => 0))), (a14, .inl (q.2.2.1, 53, .inl (fun _ => 0))), (a15, .inl (q.2.2.1, 53, .inl (fun _ => 0)))]) rfl ?_
  refine kg_put (ci := 5) (k := 17) (j := 0) (v := .ref a15) dX5_init_142 zkp_X5_57 rfl (Nat.le_of_ble_eq_true rfl) rfl rfl ?_
  refine kg_ws (ws' := [(h0, .inr (5, [.int 0, .int 1, .int 0, .ref a1, .ref a2, .ref a3, .ref a4, .ref a5, .ref a6, .ref a7, .ref a8, .ref a9, .ref a10, .ref a11, .ref a12, .ref a13, .ref a14, .ref a15, .null, .int 0])), (a1, .inl (q.2.2.1, 4, .inl (upd (upd (upd (upd (fun _ => 0) (0 : Int32).toNatClampNeg 1) (1 : Int32).toNatClampNeg 1) (2 : Int32).toNatClampNeg 1) (3 : Int32).toNatClampNeg 1))), (a2, .inl (q.2.2.1, 48, .inl (fun _ => 0))), (a3, .inl (q.2.2.1, 48, .inl (fun _ => 0))), (a4, .inl (q.2.2.1, 53, .inl (fun _ => 0))), (a5, .inl (q.2.2.1, 53, .inl (fun _ => 0))), (a6, .inl (q.2.2.1, 53, .inl (fun _ => 0))), (a7, .inl (q.2.2.1, 53, .inl (fun _ => 0))), (a8, .inl (q.2.2.2, 120, .inl (fun _ => 0))), (a9, .inl (q.2.2.2, 240, .inl (fun _ => 0))), (a10, .inl (q.2.2.2, 6, .inl (fun _ => 0))), (a11, .inl (q.2.2.1, 6, .inl (fun _ => 0))), (a12, .inl (q.2.2.2, 120, .inl (fun _ => 0))), (a13, .inl (q.2.2.2, 120, .inl (fun _ => 0))), (a14, .inl (q.2.2.1, 53, .inl (fun _ => 0))), (a15, .inl (q.2.2.1, 53, .inl (fun _ => 0)))]) rfl ?_
  refine kg_aload (i := 0) (j := 0) dX5_init_145 rfl rfl ?_
  refine kg_bipush (v := 53) dX5_init_146 (by decide) ?_
  refine kg_newB (N := 53) dX5_init_148 (zm1 41 (by decide +kernel) rfl) (by decide) (by decide) (Nat.le_of_ble_eq_true rfl) (Nat.le_of_ble_eq_true rfl) (Nat.le_of_ble_eq_true rfl) (fun a16 => ?_)
  refine kg_ws (ws' := [(h0, .inr (5, [.int 0, .int 1, .int 0, .ref a1, .ref a2, .ref a3, .ref a4, .ref a5, .ref a6, .ref a7, .ref a8, .ref a9, .ref a10, .ref a11, .ref a12, .ref a13, .ref a14, .ref a15, .null, .int 0])), (a1, .inl (q.2.2.1, 4, .inl (upd (upd (upd (upd (fun _ => 0) (0 : Int32).toNatClampNeg 1) (1 : Int32).toNatClampNeg 1) (2 : Int32).toNatClampNeg 1) (3 : Int32).toNatClampNeg 1))), (a2, .inl (q.2.2.1, 48, .inl (fun _ => 0))), (a3, .inl (q.2.2.1, 48, .inl (fun _ => 0))), (a4, .inl (q.2.2.1, 53, .inl (fun _ => 0))), (a5, .inl (q.2.2.1, 53, .inl (fun _ => 0))), (a6, .inl (q.2.2.1, 53, .inl (fun _ => 0))), (a7, .inl (q.2.2.1, 53, .inl (fun _ => 0))), (a8, .inl (q.2.2.2, 120, .inl (fun _ => 0))), (a9, .inl (q.2.2.2, 240, .inl (fun _ => 0))), (a10, .inl (q.2.2.2, 6, .inl (fun _ => 0))), (a11, .inl (q.2.2.1, 6, .inl (fun _ => 0))), (a12, .inl (q.2.2.2, 120, .inl (fun _ => 0))), (a13, .inl (q.2.2.2, 120, .inl (fun _ => 0))), (a14, .inl (q.2.2.1, 53, .inl (fun _ => 0))), (a15, .inl (q.2.2.1, 53, .inl (fun _ => 0))), (a16, .inl (q.2.2.2, 53, .inl (fun _ => 0)))]) rfl ?_
  refine kg_put (ci := 5) (k := 18) (j := 0) (v := .ref a16) dX5_init_150 zkp_X5_60 rfl (Nat.le_of_ble_eq_true rfl) rfl rfl ?_
  refine kg_ws (ws' := [(h0, .inr (5, [.int 0, .int 1, .int 0, .ref a1, .ref a2, .ref a3, .ref a4, .ref a5, .ref a6, .ref a7, .ref a8, .ref a9, .ref a10, .ref a11, .ref a12, .ref a13, .ref a14, .ref a15, .ref a16, .int 0])), (a1, .inl (q.2.2.1, 4, .inl (upd (upd (upd (upd (fun _ => 0) (0 : Int32).toNatClampNeg 1) (1 : Int32).toNatClampNeg 1) (2 : Int32).toNatClampNeg 1) (3 : Int32).toNatClampNeg 1))), (a2, .inl (q.2.2.1, 48, .inl (fun _ => 0))), (a3, .inl (q.2.2.1, 48, .inl (fun _ => 0))), (a4, .inl (q.2.2.1, 53, .inl (fun _ => 0))), (a5, .inl (q.2.2.1, 53, .inl (fun _ => 0))), (a6, .inl (q.2.2.1, 53, .inl (fun _ => 0))), (a7, .inl (q.2.2.1, 53, .inl (fun _ => 0))), (a8, .inl (q.2.2.2, 120, .inl (fun _ => 0))), (a9, .inl (q.2.2.2, 240, .inl (fun _ => 0))), (a10, .inl (q.2.2.2, 6, .inl (fun _ => 0))), (a11, .inl (q.2.2.1, 6, .inl (fun _ => 0))), (a12, .inl (q.2.2.2, 120, .inl (fun _ => 0))), (a13, .inl (q.2.2.2, 120, .inl (fun _ => 0))), (a14, .inl (q.2.2.1, 53, .inl (fun _ => 0))), (a15, .inl (q.2.2.1, 53, .inl (fun _ => 0))), (a16, .inl (q.2.2.2, 53, .inl (fun _ => 0)))]) rfl ?_
  refine kg_iconst (v := nI 0) dX5_init_153 (by decide) ?_
  refine kg_istore (lv' := [(1, .int (nI 0)), (0, .ref h0)]) dX5_init_154 rfl (by decide) rfl ?_
  refine lp_M1 (W := fun f => [(h0, .inr (5, [.int 0, .int 1, .int 0, .ref a1, .ref a2, .ref a3, .ref a4, .ref a5, .ref a6, .ref a7, .ref a8, .ref a9, .ref a10, .ref a11, .ref a12, .ref a13, .ref a14, .ref a15, .ref a16, .int 0])), (a1, .inl (q.2.2.1, 4, .inl (upd (upd (upd (upd (fun _ => 0) (0 : Int32).toNatClampNeg 1) (1 : Int32).toNatClampNeg 1) (2 : Int32).toNatClampNeg 1) (3 : Int32).toNatClampNeg 1))), (a2, .inl (q.2.2.1, 48, .inl (fun _ => 0))), (a3, .inl (q.2.2.1, 48, .inl f)), (a4, .inl (q.2.2.1, 53, .inl (fun _ => 0))), (a5, .inl (q.2.2.1, 53, .inl (fun _ => 0))), (a6, .inl (q.2.2.1, 53, .inl (fun _ => 0))), (a7, .inl (q.2.2.1, 53, .inl (fun _ => 0))), (a8, .inl (q.2.2.2, 120, .inl (fun _ => 0))), (a9, .inl (q.2.2.2, 240, .inl (fun _ => 0))), (a10, .inl (q.2.2.2, 6, .inl (fun _ => 0))), (a11, .inl (q.2.2.1, 6, .inl (fun _ => 0))), (a12, .inl (q.2.2.2, 120, .inl (fun _ => 0))), (a13, .inl (q.2.2.2, 120, .inl (fun _ => 0))), (a14, .inl (q.2.2.1, 53, .inl (fun _ => 0))), (a15, .inl (q.2.2.1, 53, .inl (fun _ => 0))), (a16, .inl (q.2.2.2, 53, .inl (fun _ => 0)))]) (j := 3) (a := a3) (fun _ => rfl) rfl (fun _ => rfl) (fun _ _ => rfl) (fun fB x hB => ?_) 48 0 (fun _ => 0) rfl (fun k hk => absurd hk (by omega))
  refine kg_iconst (v := nI 0) dX5_init_174 (by decide) ?_
  refine kg_istore (lv' := [(1, .int (nI 0)), (0, .ref h0)]) dX5_init_175 rfl (by decide) rfl ?_
  refine lp_M2 (W := fun f g => [(h0, .inr (5, [.int 0, .int 1, .int 0, .ref a1, .ref a2, .ref a3, .ref a4, .ref a5, .ref a6, .ref a7, .ref a8, .ref a9, .ref a10, .ref a11, .ref a12, .ref a13, .ref a14, .ref a15, .ref a16, .int 0])), (a1, .inl (q.2.2.1, 4, .inl (upd (upd (upd (upd (fun _ => 0) (0 : Int32).toNatClampNeg 1) (1 : Int32).toNatClampNeg 1) (2 : Int32).toNatClampNeg 1) (3 : Int32).toNatClampNeg 1))), (a2, .inl (q.2.2.1, 48, .inl (fun _ => 0))), (a3, .inl (q.2.2.1, 48, .inl fB)), (a4, .inl (q.2.2.1, 53, .inl f)), (a5, .inl (q.2.2.1, 53, .inl g)), (a6, .inl (q.2.2.1, 53, .inl (fun _ => 0))), (a7, .inl (q.2.2.1, 53, .inl (fun _ => 0))), (a8, .inl (q.2.2.2, 120, .inl (fun _ => 0))), (a9, .inl (q.2.2.2, 240, .inl (fun _ => 0))), (a10, .inl (q.2.2.2, 6, .inl (fun _ => 0))), (a11, .inl (q.2.2.1, 6, .inl (fun _ => 0))), (a12, .inl (q.2.2.2, 120, .inl (fun _ => 0))), (a13, .inl (q.2.2.2, 120, .inl (fun _ => 0))), (a14, .inl (q.2.2.1, 53, .inl (fun _ => 0))), (a15, .inl (q.2.2.1, 53, .inl (fun _ => 0))), (a16, .inl (q.2.2.2, 53, .inl (fun _ => 0)))]) (j1 := 4) (j2 := 5) (a1 := a4) (a2 := a5) (fun _ _ => rfl) rfl rfl (fun _ _ => rfl) (fun _ _ => rfl) (fun _ _ _ => rfl) (fun _ _ _ => rfl) (fun fF fS x hF hS => ?_) 53 0 (fun _ => 0) (fun _ => 0) rfl (fun k hk => absurd hk (by omega)) (fun k hk => absurd hk (by omega))
  refine kg_ret (ws' := [(h0, .inr (5, [.int 0, .int 1, .int 0, .ref a1, .ref a2, .ref a3, .ref a4, .ref a5, .ref a6, .ref a7, .ref a8, .ref a9, .ref a10, .ref a11, .ref a12, .ref a13, .ref a14, .ref a15, .ref a16, .int 0])), (a1, .inl (q.2.2.1, 4, .inl (upd (upd (upd (upd (fun _ => 0) (0 : Int32).toNatClampNeg 1) (1 : Int32).toNatClampNeg 1) (2 : Int32).toNatClampNeg 1) (3 : Int32).toNatClampNeg 1))), (a2, .inl (q.2.2.1, 48, .inl (fun _ => 0))), (a3, .inl (q.2.2.1, 48, .inl fB)), (a4, .inl (q.2.2.1, 53, .inl fF)), (a5, .inl (q.2.2.1, 53, .inl fS)), (a6, .inl (q.2.2.1, 53, .inl (fun _ => 0))), (a7, .inl (q.2.2.1, 53, .inl (fun _ => 0))), (a8, .inl (q.2.2.2, 120, .inl (fun _ => 0))), (a9, .inl (q.2.2.2, 240, .inl (fun _ => 0))), (a10, .inl (q.2.2.2, 6, .inl (fun _ => 0))), (a11, .inl (q.2.2.1, 6, .inl (fun _ => 0))), (a12, .inl (q.2.2.2, 120, .inl (fun _ => 0))), (a13, .inl (q.2.2.2, 120, .inl (fun _ => 0))), (a14, .inl (q.2.2.1, 53, .inl (fun _ => 0))), (a15, .inl (q.2.2.1, 53, .inl (fun _ => 0))), (a16, .inl (q.2.2.2, 53, .inl (fun _ => 0)))]) dX5_init_202 [0, 1, 2, 3, 4, 5, 6, 7, 8, 9, 10, 11, 12, 13, 14, 15, 16] rfl rfl rfl ⟨(fun k => match k with | 0 => h0 | 1 => a1 | 2 => a2 | 3 => a3 | 4 => a4 | 5 => a5 | 6 => a6 | 7 => a7 | 8 => a8 | 9 => a9 | 10 => a10 | 11 => a11 | 12 => a12 | 13 => a13 | 14 => a14 | 15 => a15 | 16 => a16 | _ => 0), (fun k => match k with | 0 => (fun j => if j = 0 then 0 else if j = 1 then 1 else if j = 2 then 0 else if j = 19 then 0 else 0) | 1 => (upd (upd (upd (upd (fun _ => 0) (0 : Int32).toNatClampNeg 1) (1 : Int32).toNatClampNeg 1) (2 : Int32).toNatClampNeg 1) (3 : Int32).toNatClampNeg 1) | 2 => (fun _ => 0) | 3 => fB | 4 => fF | 5 => fS | 6 => (fun _ => 0) | 7 => (fun _ => 0) | 8 => (fun _ => 0) | 9 => (fun _ => 0) | 10 => (fun _ => 0) | 11 => (fun _ => 0) | 12 => (fun _ => 0) | 13 => (fun _ => 0) | 14 => (fun _ => 0) | 15 => (fun _ => 0) | 16 => (fun _ => 0) | _ => fun _ => 0), rfl, rfl, ?_⟩ ⟨(Nat.le_of_ble_eq_true rfl), (Nat.le_of_ble_eq_true rfl)⟩
  exact ⟨hB, fun _ => rfl, hF, hS, fun _ => rfl, fun _ => rfl, fun k hk => by rcases (show k = 0 ∨ k = 1 ∨ k = 2 ∨ k = 3 by omega) with rfl | rfl | rfl | rfl <;> rfl, fun _ => rfl, fun _ => rfl, fun _ => rfl, fun _ => rfl, rfl, rfl⟩
end
