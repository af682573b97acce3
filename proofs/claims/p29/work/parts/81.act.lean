/-! ===== by program (wip/p29/act.py): an act of the law ===== -/
section
def cpt (l h : Nat → Int32) (i : Nat) : Nat → Int32 := fun j => if j < i then l j else h j
def lzt (l : Nat → Int32) (a e : Nat) : Nat → Int32 := fun j => if a ≤ j ∧ j < e then 0 else l j
theorem cpt_0 (l h : Nat → Int32) : cpt l h 0 = h := by funext j; unfold cpt; rw [if_neg (by omega)]
theorem cpt_s (l h : Nat → Int32) (i : Nat) : upd (cpt l h i) i (l i) = cpt l h (i + 1) := by
  funext j
  unfold upd cpt
  by_cases e : j = i
  · rw [if_pos e, if_pos (by omega), e]
  · rw [if_neg e]
    by_cases e2 : j < i
    · rw [if_pos e2, if_pos (by omega)]
    · rw [if_neg e2, if_neg (by omega)]
theorem lzt_0 (l : Nat → Int32) (a : Nat) : lzt l a a = l := by funext j; unfold lzt; rw [if_neg (by omega)]
theorem lzt_s (l : Nat → Int32) {a e : Nat} (h : a ≤ e) : upd (lzt l a e) e 0 = lzt l a (e + 1) := by
  funext j
  unfold upd lzt
  by_cases q : j = e
  · rw [if_pos q, if_pos (by omega)]
  · rw [if_neg q]
    by_cases q2 : a ≤ j ∧ j < e
    · rw [if_pos q2, if_pos (by omega)]
    · rw [if_neg q2, if_neg (by omega)]
theorem xm_20 (P : Mem) (l h : Nat → Int32) (i : Nat) (v : Int32) : mup (xm P (f2 l h)) 20 i v = xm P (f2 (upd l i v) h) := by
  funext k
  unfold mup mset
  by_cases e : k = 20
  · rw [if_pos e, e]; rfl
  · rw [if_neg e]
    unfold xm
    by_cases e2 : k < 20
    · rw [if_pos e2, if_pos e2]
    · rw [if_neg e2, if_neg e2]
      obtain ⟨j, hj⟩ : ∃ j, k - 20 = j + 1 := ⟨k - 21, by omega⟩
      rw [hj]; cases j <;> rfl
theorem xm_21 (P : Mem) (l h : Nat → Int32) (i : Nat) (v : Int32) : mup (xm P (f2 l h)) 21 i v = xm P (f2 l (upd h i v)) := by
  funext k
  unfold mup mset
  by_cases e : k = 21
  · rw [if_pos e, e]; rfl
  · rw [if_neg e]
    unfold xm
    by_cases e2 : k < 20
    · rw [if_pos e2, if_pos e2]
    · rw [if_neg e2, if_neg e2]
      by_cases e3 : k = 20
      · rw [e3]; rfl
      · obtain ⟨j, hj⟩ : ∃ j, k - 20 = j + 2 := ⟨k - 22, by omega⟩
        rw [hj]; rfl
theorem ac_116 (q : ZQ) (hq : q.1.stackTraces = false) (X Y a : Nat) (hX : X < 2 ^ 31) (hY : Y < 2 ^ 28) (ha : a < 48) (P : Mem) (l h : Nat → Int32) {ce sl : Nat} (hc : ce + 1 ≤ 2 ∧ sl + 6 ≤ 12) : Zg (zgA q) mL_act 2 12 ce sl (.inl (some (eI (f_X4_write (nI (a / 12)) (nI (a % 12)) (nI (1 + (Y / 48) % 9999)) P).1)), (xm ((f_X4_write (nI (a / 12)) (nI (a % 12)) (nI (1 + (Y / 48) % 9999)) P).2) (f2 (upd l a (nI (1 + (Y / 48) % 9999))) h))) 116 [some (.inr 0), some (.inl (nI X)), some (.inr 20), some (.inr 21), some (.inl (nI Y)), some (.inl (nI a)), some (.inl (nI (Y % 3))), some (.inl (nI (Y / 3 % 2))), none, none, none] [] (xm P (f2 l h)) := by
  refine zg_aload_n (x := 20) dL_act_116 rfl ?_
  refine zg_iload (x := nI a) dL_act_117 rfl ?_
  refine zg_iconst (v := nI 1) dL_act_119 (by decide) ?_
  refine zg_iload (x := nI Y) dL_act_120 rfl ?_
  refine zg_bipush (v := nI 48) dL_act_122 (by decide) ?_
  refine zg_idivN dL_act_124 (by omega) (by omega) (by omega) ?_
  refine zg_sipush (v := nI 9999) dL_act_125 (by decide) ?_
  refine zg_iremN dL_act_128 (by omega) (by omega) (by omega) ?_
  refine zg_iaddN dL_act_129 ?_
  refine zg_iastN (n := 48) (M' := (xm P (f2 (upd l a (nI (1 + (Y / 48) % 9999))) h))) dL_act_130 rfl (by omega) (by decide) (xm_20 P l h a _) ?_
  refine zg_st (pc' := 131) (L' := [some (.inr 0), some (.inl (nI X)), some (.inr 20), some (.inr 21), some (.inl (nI Y)), some (.inl (nI a)), some (.inl (nI (Y % 3))), some (.inl (nI (Y / 3 % 2))), none, none, none]) (S' := []) (M' := (xm P (f2 (upd l a (nI (1 + (Y / 48) % 9999))) h))) rfl rfl rfl rfl ?_
  refine zg_aload_n (x := 0) dL_act_131 rfl ?_
  refine zg_iload (x := nI a) dL_act_132 rfl ?_
  refine zg_bipush (v := nI 12) dL_act_134 (by decide) ?_
  refine zg_idivN dL_act_136 (by omega) (by omega) (by omega) ?_
  refine zg_iload (x := nI a) dL_act_137 rfl ?_
  refine zg_bipush (v := nI 12) dL_act_139 (by decide) ?_
  refine zg_iremN dL_act_141 (by omega) (by omega) (by omega) ?_
  refine zg_aload_n (x := 20) dL_act_142 rfl ?_
  refine zg_iload (x := nI a) dL_act_143 rfl ?_
  refine zg_ialdN (n := 48) (v := (nI (1 + (Y / 48) % 9999))) dL_act_145 rfl (by omega) (by decide) (pk_us) ?_
  refine zg_cW (As := [.inr 0, .inl (nI (a / 12)), .inl (nI (a % 12)), .inl (nI (1 + (Y / 48) % 9999))]) (S := []) (k := eI (f_X4_write (nI (a / 12)) (nI (a % 12)) (nI (1 + (Y / 48) % 9999)) P).1) (N := (xm ((f_X4_write (nI (a / 12)) (nI (a % 12)) (nI (1 + (Y / 48) % 9999)) P).2) (f2 (upd l a (nI (1 + (Y / 48) % 9999))) h))) dL_act_146 (XA (w_writes q hq (nI (a / 12)) (nI (a % 12)) (nI (1 + (Y / 48) % 9999)) P)) lk_writes.1 lk_writes.2 zi_L_writes rfl ⟨by decide, by decide⟩ ⟨by omega, by omega⟩ rfl (Nat.le_of_ble_eq_true rfl) ?_
  refine zg_st (pc' := 149) (L' := [some (.inr 0), some (.inl (nI X)), some (.inr 20), some (.inr 21), some (.inl (nI Y)), some (.inl (nI a)), some (.inl (nI (Y % 3))), some (.inl (nI (Y / 3 % 2))), none, none, none]) (S' := [.inl (eI (f_X4_write (nI (a / 12)) (nI (a % 12)) (nI (1 + (Y / 48) % 9999)) P).1)]) (M' := (xm ((f_X4_write (nI (a / 12)) (nI (a % 12)) (nI (1 + (Y / 48) % 9999)) P).2) (f2 (upd l a (nI (1 + (Y / 48) % 9999))) h))) rfl rfl rfl rfl ?_
  exact zg_iret dL_act_149 rfl rfl ⟨by omega, by omega⟩ rfl
theorem ac_179 (q : ZQ) (hq : q.1.stackTraces = false) (X Y a : Nat) (hX : X < 2 ^ 31) (hY : Y < 2 ^ 28) (ha : a < 48) (P : Mem) (l h : Nat → Int32) (t : Nat) (ht : t < 12) (B : ZR) : ∀ (n k ce sl : Nat), k + n = t + 1 → a % 12 ≤ k → Zg (zgA q) mL_act 2 12 ce sl B 206 [some (.inr 0), some (.inl (nI X)), some (.inr 20), some (.inr 21), some (.inl (nI Y)), some (.inl (nI a)), some (.inl (nI (Y % 3))), some (.inl (nI (Y / 3 % 2))), some (.inl (nI t)), none, none] [] (xm P (f2 (lzt l a (a - a % 12 + (t + 1))) h)) → Zg (zgA q) mL_act 2 12 ce sl B 179 [some (.inr 0), some (.inl (nI X)), some (.inr 20), some (.inr 21), some (.inl (nI Y)), some (.inl (nI a)), some (.inl (nI (Y % 3))), some (.inl (nI (Y / 3 % 2))), some (.inl (nI t)), some (.inl (nI k)), none] [] (xm P (f2 (lzt l a (a - a % 12 + k)) h)) := by
  intro n
  induction n with
  | zero =>
    intro k ce sl hk hk2 hh
    have e : k = t + 1 := by omega
    subst e
    refine zg_iload (x := nI (t + 1)) dL_act_179 rfl ?_
    refine zg_iload (x := nI t) dL_act_181 rfl ?_
    refine zg_jt2 (tgt := 206) dL_act_183 rfl (show nI t < nI (t + 1) from nI_lt (by omega) (by omega)) ?_
    refine zg_drop (L' := [some (.inr 0), some (.inl (nI X)), some (.inr 20), some (.inr 21), some (.inl (nI Y)), some (.inl (nI a)), some (.inl (nI (Y % 3))), some (.inl (nI (Y / 3 % 2))), some (.inl (nI t)), none, none]) ⟨rfl, ⟨rfl, ⟨rfl, ⟨rfl, ⟨rfl, ⟨rfl, ⟨rfl, ⟨rfl, ⟨rfl, trivial⟩⟩⟩⟩⟩⟩⟩⟩⟩ ?_
    exact hh
  | succ n ih =>
    intro k ce sl hk hk2 hh
    refine zg_iload (x := nI k) dL_act_179 rfl ?_
    refine zg_iload (x := nI t) dL_act_181 rfl ?_
    refine zg_jf2 (tgt := 206) dL_act_183 rfl (show ¬ (nI t < nI k) from nI_nlt (by omega) (by omega)) ?_
    refine zg_aload_n (x := 20) dL_act_186 rfl ?_
    refine zg_iload (x := nI a) dL_act_187 rfl ?_
    refine zg_iload (x := nI a) dL_act_189 rfl ?_
    refine zg_bipush (v := nI 12) dL_act_191 (by decide) ?_
    refine zg_iremN dL_act_193 (by omega) (by omega) (by omega) ?_
    refine zg_isubN dL_act_194 (by omega) ?_
    refine zg_iload (x := nI k) dL_act_195 rfl ?_
    refine zg_iaddN dL_act_197 ?_
    refine zg_iconst (v := nI 0) dL_act_198 (by decide) ?_
    refine zg_iastN (n := 48) (M' := (xm P (f2 (lzt l a (a - a % 12 + (k + 1))) h))) dL_act_199 rfl (by omega) (by decide) (by rw [xm_20]; congr 2; exact lzt_s l (by omega)) ?_
    refine zg_st (pc' := 200) (L' := [some (.inr 0), some (.inl (nI X)), some (.inr 20), some (.inr 21), some (.inl (nI Y)), some (.inl (nI a)), some (.inl (nI (Y % 3))), some (.inl (nI (Y / 3 % 2))), some (.inl (nI t)), some (.inl (nI k)), none]) (S' := []) (M' := (xm P (f2 (lzt l a (a - a % 12 + (k + 1))) h))) rfl rfl rfl rfl ?_
    refine zg_iincN (a := k) dL_act_200 rfl (Nat.le_of_ble_eq_true rfl) ?_
    refine zg_st (pc' := 203) (L' := [some (.inr 0), some (.inl (nI X)), some (.inr 20), some (.inr 21), some (.inl (nI Y)), some (.inl (nI a)), some (.inl (nI (Y % 3))), some (.inl (nI (Y / 3 % 2))), some (.inl (nI t)), some (.inl (nI (k + 1))), none]) (S' := []) (M' := (xm P (f2 (lzt l a (a - a % 12 + (k + 1))) h))) rfl rfl rfl rfl ?_
    refine zg_goto (tgt := 179) dL_act_203 rfl ?_
    exact ih (k + 1) ce sl (by omega) (by omega) hh
theorem ac_150 (q : ZQ) (hq : q.1.stackTraces = false) (X Y a : Nat) (hX : X < 2 ^ 31) (hY : Y < 2 ^ 28) (ha : a < 48) (P : Mem) (l h : Nat → Int32) {ce sl : Nat} (hc : ce + 1 ≤ 2 ∧ sl + 6 ≤ 12) : Zg (zgA q) mL_act 2 12 ce sl (.inl (some (eI (f_X4_punch (nI (a / 12)) (nI (a % 12)) (nI (a % 12 + (Y / 48) % (12 - a % 12))) P).1)), (xm ((f_X4_punch (nI (a / 12)) (nI (a % 12)) (nI (a % 12 + (Y / 48) % (12 - a % 12))) P).2) (f2 (lzt l a (a - a % 12 + (a % 12 + (Y / 48) % (12 - a % 12) + 1))) h))) 150 [some (.inr 0), some (.inl (nI X)), some (.inr 20), some (.inr 21), some (.inl (nI Y)), some (.inl (nI a)), some (.inl (nI (Y % 3))), some (.inl (nI (Y / 3 % 2))), none, none, none] [] (xm P (f2 l h)) := by
  refine zg_iload (x := nI a) dL_act_150 rfl ?_
  refine zg_bipush (v := nI 12) dL_act_152 (by decide) ?_
  refine zg_iremN dL_act_154 (by omega) (by omega) (by omega) ?_
  refine zg_iload (x := nI Y) dL_act_155 rfl ?_
  refine zg_bipush (v := nI 48) dL_act_157 (by decide) ?_
  refine zg_idivN dL_act_159 (by omega) (by omega) (by omega) ?_
  refine zg_bipush (v := nI 12) dL_act_160 (by decide) ?_
  refine zg_iload (x := nI a) dL_act_162 rfl ?_
  refine zg_bipush (v := nI 12) dL_act_164 (by decide) ?_
  refine zg_iremN dL_act_166 (by omega) (by omega) (by omega) ?_
  refine zg_isubN dL_act_167 (by omega) ?_
  refine zg_iremN dL_act_168 (by omega) (by omega) (by omega) ?_
  refine zg_iaddN dL_act_169 ?_
  refine zg_istore dL_act_170 (by decide) ?_
  refine zg_st (pc' := 172) (L' := [some (.inr 0), some (.inl (nI X)), some (.inr 20), some (.inr 21), some (.inl (nI Y)), some (.inl (nI a)), some (.inl (nI (Y % 3))), some (.inl (nI (Y / 3 % 2))), some (.inl (nI ((a % 12) + ((Y / 48) % (12 - (a % 12)))))), none, none]) (S' := []) (M' := (xm P (f2 l h))) rfl rfl rfl rfl ?_
  refine zg_iload (x := nI a) dL_act_172 rfl ?_
  refine zg_bipush (v := nI 12) dL_act_174 (by decide) ?_
  refine zg_iremN dL_act_176 (by omega) (by omega) (by omega) ?_
  refine zg_istore dL_act_177 (by decide) ?_
  refine zg_st (pc' := 179) (L' := [some (.inr 0), some (.inl (nI X)), some (.inr 20), some (.inr 21), some (.inl (nI Y)), some (.inl (nI a)), some (.inl (nI (Y % 3))), some (.inl (nI (Y / 3 % 2))), some (.inl (nI ((a % 12) + ((Y / 48) % (12 - (a % 12)))))), some (.inl (nI (a % 12))), none]) (S' := []) (M' := (xm P (f2 l h))) rfl rfl rfl rfl ?_
  have hlt : (Y / 48) % (12 - a % 12) < 12 - a % 12 := Nat.mod_lt _ (by omega)
  have e0 : xm P (f2 l h) = (xm P (f2 (lzt l a (a - a % 12 + a % 12)) h)) := by rw [show a - a % 12 + a % 12 = a by omega, lzt_0]
  rw [e0]
  refine ac_179 q hq X Y a hX hY ha P l h (a % 12 + (Y / 48) % (12 - a % 12)) (by omega) _ (a % 12 + (Y / 48) % (12 - a % 12) + 1 - a % 12) (a % 12) ce sl (by omega) (Nat.le_refl _) ?_
  refine zg_aload_n (x := 0) dL_act_206 rfl ?_
  refine zg_iload (x := nI a) dL_act_207 rfl ?_
  refine zg_bipush (v := nI 12) dL_act_209 (by decide) ?_
  refine zg_idivN dL_act_211 (by omega) (by omega) (by omega) ?_
  refine zg_iload (x := nI a) dL_act_212 rfl ?_
  refine zg_bipush (v := nI 12) dL_act_214 (by decide) ?_
  refine zg_iremN dL_act_216 (by omega) (by omega) (by omega) ?_
  refine zg_iload (x := nI (a % 12 + (Y / 48) % (12 - a % 12))) dL_act_217 rfl ?_
  refine zg_cW (As := [.inr 0, .inl (nI (a / 12)), .inl (nI (a % 12)), .inl (nI (a % 12 + (Y / 48) % (12 - a % 12)))]) (S := []) (k := eI (f_X4_punch (nI (a / 12)) (nI (a % 12)) (nI (a % 12 + (Y / 48) % (12 - a % 12))) P).1) (N := (xm ((f_X4_punch (nI (a / 12)) (nI (a % 12)) (nI (a % 12 + (Y / 48) % (12 - a % 12))) P).2) (f2 (lzt l a (a - a % 12 + (a % 12 + (Y / 48) % (12 - a % 12) + 1))) h))) dL_act_219 (XA (w_punches q hq (nI (a / 12)) (nI (a % 12)) (nI (a % 12 + (Y / 48) % (12 - a % 12))) P)) lk_punches.1 lk_punches.2 zi_L_punches rfl ⟨by decide, by decide⟩ ⟨by omega, by omega⟩ rfl (Nat.le_of_ble_eq_true rfl) ?_
  refine zg_st (pc' := 222) (L' := [some (.inr 0), some (.inl (nI X)), some (.inr 20), some (.inr 21), some (.inl (nI Y)), some (.inl (nI a)), some (.inl (nI (Y % 3))), some (.inl (nI (Y / 3 % 2))), some (.inl (nI (a % 12 + (Y / 48) % (12 - a % 12)))), none, none]) (S' := [.inl (eI (f_X4_punch (nI (a / 12)) (nI (a % 12)) (nI (a % 12 + (Y / 48) % (12 - a % 12))) P).1)]) (M' := (xm ((f_X4_punch (nI (a / 12)) (nI (a % 12)) (nI (a % 12 + (Y / 48) % (12 - a % 12))) P).2) (f2 (lzt l a (a - a % 12 + (a % 12 + (Y / 48) % (12 - a % 12) + 1))) h))) rfl rfl rfl rfl ?_
  exact zg_iret dL_act_222 rfl rfl ⟨by omega, by omega⟩ rfl
theorem ac_223 (q : ZQ) (hq : q.1.stackTraces = false) (X Y a : Nat) (hX : X < 2 ^ 31) (hY : Y < 2 ^ 28) (ha : a < 48) (P : Mem) (l h : Nat → Int32) {ce sl : Nat} (hc : ce + 1 ≤ 2 ∧ sl + 6 ≤ 12) : Zg (zgA q) mL_act 2 12 ce sl (.inl (some (eI (f_X4_setCopies (nI (a / 12)) (nI (1 + (Y / 48) % 2)) P).1)), (xm ((f_X4_setCopies (nI (a / 12)) (nI (1 + (Y / 48) % 2)) P).2) (f2 l h))) 223 [some (.inr 0), some (.inl (nI X)), some (.inr 20), some (.inr 21), some (.inl (nI Y)), some (.inl (nI a)), some (.inl (nI (Y % 3))), some (.inl (nI (Y / 3 % 2))), none, none, none] [] (xm P (f2 l h)) := by
  refine zg_aload_n (x := 0) dL_act_223 rfl ?_
  refine zg_iload (x := nI a) dL_act_224 rfl ?_
  refine zg_bipush (v := nI 12) dL_act_226 (by decide) ?_
  refine zg_idivN dL_act_228 (by omega) (by omega) (by omega) ?_
  refine zg_iconst (v := nI 1) dL_act_229 (by decide) ?_
  refine zg_iload (x := nI Y) dL_act_230 rfl ?_
  refine zg_bipush (v := nI 48) dL_act_232 (by decide) ?_
  refine zg_idivN dL_act_234 (by omega) (by omega) (by omega) ?_
  refine zg_iconst (v := nI 2) dL_act_235 (by decide) ?_
  refine zg_iremN dL_act_236 (by omega) (by omega) (by omega) ?_
  refine zg_iaddN dL_act_237 ?_
  refine zg_cW (As := [.inr 0, .inl (nI (a / 12)), .inl (nI (1 + ((Y / 48) % 2)))]) (S := []) (k := eI (f_X4_setCopies (nI (a / 12)) (nI (1 + (Y / 48) % 2)) P).1) (N := (xm ((f_X4_setCopies (nI (a / 12)) (nI (1 + (Y / 48) % 2)) P).2) (f2 l h))) dL_act_238 (XA (w_doubles q hq (nI (a / 12)) (nI (1 + (Y / 48) % 2)) P)) lk_doubles.1 lk_doubles.2 zi_L_doubles rfl ⟨by decide, by decide⟩ ⟨by omega, by omega⟩ rfl (Nat.le_of_ble_eq_true rfl) ?_
  refine zg_st (pc' := 241) (L' := [some (.inr 0), some (.inl (nI X)), some (.inr 20), some (.inr 21), some (.inl (nI Y)), some (.inl (nI a)), some (.inl (nI (Y % 3))), some (.inl (nI (Y / 3 % 2))), none, none, none]) (S' := [.inl (eI (f_X4_setCopies (nI (a / 12)) (nI (1 + (Y / 48) % 2)) P).1)]) (M' := (xm ((f_X4_setCopies (nI (a / 12)) (nI (1 + (Y / 48) % 2)) P).2) (f2 l h))) rfl rfl rfl rfl ?_
  exact zg_iret dL_act_241 rfl rfl ⟨by omega, by omega⟩ rfl
theorem ac_251 (q : ZQ) (hq : q.1.stackTraces = false) (X Y a : Nat) (hX : X < 2 ^ 31) (hY : Y < 2 ^ 28) (ha : a < 48) (P : Mem) (l h : Nat → Int32) (r : Int32) (hr : ¬ r < 0) : ∀ (n k ce sl : Nat), k + n = 48 → ce ≤ 2 ∧ sl ≤ 12 → Zg (zgA q) mL_act 2 12 ce sl (.inl (some r), (xm P (f2 l (cpt l h 48)))) 251 [some (.inr 0), some (.inl (nI X)), some (.inr 20), some (.inr 21), some (.inl (nI Y)), some (.inl (nI a)), some (.inl (nI (Y % 3))), some (.inl (nI (Y / 3 % 2))), none, some (.inl r), some (.inl (nI k))] [] (xm P (f2 l (cpt l h k))) := by
  intro n
  induction n with
  | zero =>
    intro k ce sl hk hc
    have e : k = 48 := by omega
    subst e
    refine zg_iload (x := nI 48) dL_act_251 rfl ?_
    refine zg_bipush (v := nI 48) dL_act_253 (by decide) ?_
    refine zg_jt2 (tgt := 277) dL_act_255 rfl (nI_le (Nat.le_refl _) (by decide)) ?_
    refine zg_iload (x := r) dL_act_277 rfl ?_
    exact zg_iret dL_act_279 rfl rfl ⟨by omega, by omega⟩ rfl
  | succ n ih =>
    intro k ce sl hk hc
    refine zg_iload (x := nI k) dL_act_251 rfl ?_
    refine zg_bipush (v := nI 48) dL_act_253 (by decide) ?_
    refine zg_jf2 (tgt := 277) dL_act_255 rfl (nI_ge (by omega) (by decide)) ?_
    refine zg_iload (x := r) dL_act_258 rfl ?_
    refine zg_jf (tgt := 277) dL_act_260 rfl hr ?_
    refine zg_aload_n (x := 21) dL_act_263 rfl ?_
    refine zg_iload (x := nI k) dL_act_264 rfl ?_
    refine zg_aload_n (x := 20) dL_act_266 rfl ?_
    refine zg_iload (x := nI k) dL_act_267 rfl ?_
    refine zg_ialdN (n := 48) (v := (l k)) dL_act_269 rfl (by omega) (by decide) rfl ?_
    refine zg_iastN (n := 48) (M' := (xm P (f2 l (cpt l h (k + 1))))) dL_act_270 rfl (by omega) (by decide) (by rw [xm_21]; congr 2; exact cpt_s l h k) ?_
    refine zg_st (pc' := 271) (L' := [some (.inr 0), some (.inl (nI X)), some (.inr 20), some (.inr 21), some (.inl (nI Y)), some (.inl (nI a)), some (.inl (nI (Y % 3))), some (.inl (nI (Y / 3 % 2))), none, some (.inl r), some (.inl (nI k))]) (S' := []) (M' := (xm P (f2 l (cpt l h (k + 1))))) rfl rfl rfl rfl ?_
    refine zg_iincN (a := k) dL_act_271 rfl (Nat.le_of_ble_eq_true rfl) ?_
    refine zg_st (pc' := 274) (L' := [some (.inr 0), some (.inl (nI X)), some (.inr 20), some (.inr 21), some (.inl (nI Y)), some (.inl (nI a)), some (.inl (nI (Y % 3))), some (.inl (nI (Y / 3 % 2))), none, some (.inl r), some (.inl (nI (k + 1)))]) (S' := []) (M' := (xm P (f2 l (cpt l h (k + 1))))) rfl rfl rfl rfl ?_
    refine zg_goto (tgt := 251) dL_act_274 rfl ?_
    exact ih (k + 1) ce sl (by omega) hc
theorem ac_242 (q : ZQ) (hq : q.1.stackTraces = false) (X Y a : Nat) (hX : X < 2 ^ 31) (hY : Y < 2 ^ 28) (ha : a < 48) (P : Mem) (l h : Nat → Int32) {ce sl : Nat} (hc : ce + 1 ≤ 2 ∧ sl + 6 ≤ 12) : Zg (zgA q) mL_act 2 12 ce sl (.inl (some (eI (f_X4_sync P).1)), (xm ((f_X4_sync P).2) (f2 l (if eI (f_X4_sync P).1 < 0 then h else cpt l h 48)))) 242 [some (.inr 0), some (.inl (nI X)), some (.inr 20), some (.inr 21), some (.inl (nI Y)), some (.inl (nI a)), some (.inl (nI (Y % 3))), some (.inl (nI (Y / 3 % 2))), none, none, none] [] (xm P (f2 l h)) := by
  by_cases hr : eI (f_X4_sync P).1 < 0
  · refine zg_aload_n (x := 0) dL_act_242 rfl ?_
    refine zg_cW (As := [.inr 0]) (S := []) (k := eI (f_X4_sync P).1) (N := (xm ((f_X4_sync P).2) (f2 l h))) dL_act_243 (XA (w_syncs q hq P)) lk_syncs.1 lk_syncs.2 zi_L_syncs rfl ⟨by decide, by decide⟩ ⟨by omega, by omega⟩ rfl (Nat.le_of_ble_eq_true rfl) ?_
    refine zg_st (pc' := 246) (L' := [some (.inr 0), some (.inl (nI X)), some (.inr 20), some (.inr 21), some (.inl (nI Y)), some (.inl (nI a)), some (.inl (nI (Y % 3))), some (.inl (nI (Y / 3 % 2))), none, none, none]) (S' := [.inl (eI (f_X4_sync P).1)]) (M' := (xm ((f_X4_sync P).2) (f2 l h))) rfl rfl rfl rfl ?_
    refine zg_istore dL_act_246 (by decide) ?_
    refine zg_st (pc' := 248) (L' := [some (.inr 0), some (.inl (nI X)), some (.inr 20), some (.inr 21), some (.inl (nI Y)), some (.inl (nI a)), some (.inl (nI (Y % 3))), some (.inl (nI (Y / 3 % 2))), none, some (.inl (eI (f_X4_sync P).1)), none]) (S' := []) (M' := (xm ((f_X4_sync P).2) (f2 l h))) rfl rfl rfl rfl ?_
    refine zg_iconst (v := nI 0) dL_act_248 (by decide) ?_
    refine zg_istore dL_act_249 (by decide) ?_
    refine zg_st (pc' := 251) (L' := [some (.inr 0), some (.inl (nI X)), some (.inr 20), some (.inr 21), some (.inl (nI Y)), some (.inl (nI a)), some (.inl (nI (Y % 3))), some (.inl (nI (Y / 3 % 2))), none, some (.inl (eI (f_X4_sync P).1)), some (.inl (nI 0))]) (S' := []) (M' := (xm ((f_X4_sync P).2) (f2 l h))) rfl rfl rfl rfl ?_
    refine zg_iload (x := nI 0) dL_act_251 rfl ?_
    refine zg_bipush (v := nI 48) dL_act_253 (by decide) ?_
    refine zg_jf2 (tgt := 277) dL_act_255 rfl (nI_ge (by omega) (by decide)) ?_
    refine zg_iload (x := eI (f_X4_sync P).1) dL_act_258 rfl ?_
    refine zg_jt (tgt := 277) dL_act_260 rfl hr ?_
    refine zg_iload (x := eI (f_X4_sync P).1) dL_act_277 rfl ?_
    rw [if_pos hr]
    exact zg_iret dL_act_279 rfl rfl ⟨by omega, by omega⟩ rfl
  · refine zg_aload_n (x := 0) dL_act_242 rfl ?_
    refine zg_cW (As := [.inr 0]) (S := []) (k := eI (f_X4_sync P).1) (N := (xm ((f_X4_sync P).2) (f2 l h))) dL_act_243 (XA (w_syncs q hq P)) lk_syncs.1 lk_syncs.2 zi_L_syncs rfl ⟨by decide, by decide⟩ ⟨by omega, by omega⟩ rfl (Nat.le_of_ble_eq_true rfl) ?_
    refine zg_st (pc' := 246) (L' := [some (.inr 0), some (.inl (nI X)), some (.inr 20), some (.inr 21), some (.inl (nI Y)), some (.inl (nI a)), some (.inl (nI (Y % 3))), some (.inl (nI (Y / 3 % 2))), none, none, none]) (S' := [.inl (eI (f_X4_sync P).1)]) (M' := (xm ((f_X4_sync P).2) (f2 l h))) rfl rfl rfl rfl ?_
    refine zg_istore dL_act_246 (by decide) ?_
    refine zg_st (pc' := 248) (L' := [some (.inr 0), some (.inl (nI X)), some (.inr 20), some (.inr 21), some (.inl (nI Y)), some (.inl (nI a)), some (.inl (nI (Y % 3))), some (.inl (nI (Y / 3 % 2))), none, some (.inl (eI (f_X4_sync P).1)), none]) (S' := []) (M' := (xm ((f_X4_sync P).2) (f2 l h))) rfl rfl rfl rfl ?_
    refine zg_iconst (v := nI 0) dL_act_248 (by decide) ?_
    refine zg_istore dL_act_249 (by decide) ?_
    refine zg_st (pc' := 251) (L' := [some (.inr 0), some (.inl (nI X)), some (.inr 20), some (.inr 21), some (.inl (nI Y)), some (.inl (nI a)), some (.inl (nI (Y % 3))), some (.inl (nI (Y / 3 % 2))), none, some (.inl (eI (f_X4_sync P).1)), some (.inl (nI 0))]) (S' := []) (M' := (xm ((f_X4_sync P).2) (f2 l h))) rfl rfl rfl rfl ?_
    rw [if_neg hr]
    have e0 : (xm ((f_X4_sync P).2) (f2 l h)) = (xm ((f_X4_sync P).2) (f2 l (cpt l h 0))) := by rw [cpt_0]
    rw [e0]
    exact ac_251 q hq X Y a hX hY ha _ l h _ hr 48 0 _ _ (by omega) ⟨by omega, by omega⟩
theorem ac_283 (q : ZQ) (hq : q.1.stackTraces = false) (X Y a : Nat) (hX : X < 2 ^ 31) (hY : Y < 2 ^ 28) (ha : a < 48) (P : Mem) (l h : Nat → Int32) (h0 : Y % 3 = 0) (B : ZR) : ∀ (n k ce sl : Nat), k + n = 48 → Zg (zgA q) mL_act 2 12 ce sl B 311 [some (.inr 0), some (.inl (nI X)), some (.inr 20), some (.inr 21), some (.inl (nI Y)), some (.inl (nI a)), some (.inl (nI (Y % 3))), some (.inl (nI (Y / 3 % 2))), none, none, none] [] (xm P (f2 (cpt h l 48) h)) → Zg (zgA q) mL_act 2 12 ce sl B 283 [some (.inr 0), some (.inl (nI X)), some (.inr 20), some (.inr 21), some (.inl (nI Y)), some (.inl (nI a)), some (.inl (nI (Y % 3))), some (.inl (nI (Y / 3 % 2))), none, none, some (.inl (nI k))] [] (xm P (f2 (cpt h l k) h)) := by
  intro n
  induction n with
  | zero =>
    intro k ce sl hk hh
    have e : k = 48 := by omega
    subst e
    refine zg_iload (x := nI 48) dL_act_283 rfl ?_
    refine zg_bipush (v := nI 48) dL_act_285 (by decide) ?_
    refine zg_jt2 (tgt := 311) dL_act_287 rfl (nI_le (Nat.le_refl _) (by decide)) ?_
    refine zg_drop (L' := [some (.inr 0), some (.inl (nI X)), some (.inr 20), some (.inr 21), some (.inl (nI Y)), some (.inl (nI a)), some (.inl (nI (Y % 3))), some (.inl (nI (Y / 3 % 2))), none, none, none]) ⟨rfl, ⟨rfl, ⟨rfl, ⟨rfl, ⟨rfl, ⟨rfl, ⟨rfl, ⟨rfl, trivial⟩⟩⟩⟩⟩⟩⟩⟩ ?_
    exact hh
  | succ n ih =>
    intro k ce sl hk hh
    refine zg_iload (x := nI k) dL_act_283 rfl ?_
    refine zg_bipush (v := nI 48) dL_act_285 (by decide) ?_
    refine zg_jf2 (tgt := 311) dL_act_287 rfl (nI_ge (by omega) (by decide)) ?_
    refine zg_iload (x := nI Y) dL_act_290 rfl ?_
    refine zg_iconst (v := nI 3) dL_act_292 (by decide) ?_
    refine zg_iremN dL_act_293 (by omega) (by omega) (by omega) ?_
    refine zg_jf (tgt := 311) dL_act_294 rfl (show ¬ ¬ (nI (Y % 3) = 0) by rw [h0]; decide) ?_
    refine zg_aload_n (x := 20) dL_act_297 rfl ?_
    refine zg_iload (x := nI k) dL_act_298 rfl ?_
    refine zg_aload_n (x := 21) dL_act_300 rfl ?_
    refine zg_iload (x := nI k) dL_act_301 rfl ?_
    refine zg_ialdN (n := 48) (v := (h k)) dL_act_303 rfl (by omega) (by decide) rfl ?_
    refine zg_iastN (n := 48) (M' := (xm P (f2 (cpt h l (k + 1)) h))) dL_act_304 rfl (by omega) (by decide) (by rw [xm_20]; congr 2; exact cpt_s h l k) ?_
    refine zg_st (pc' := 305) (L' := [some (.inr 0), some (.inl (nI X)), some (.inr 20), some (.inr 21), some (.inl (nI Y)), some (.inl (nI a)), some (.inl (nI (Y % 3))), some (.inl (nI (Y / 3 % 2))), none, none, some (.inl (nI k))]) (S' := []) (M' := (xm P (f2 (cpt h l (k + 1)) h))) rfl rfl rfl rfl ?_
    refine zg_iincN (a := k) dL_act_305 rfl (Nat.le_of_ble_eq_true rfl) ?_
    refine zg_st (pc' := 308) (L' := [some (.inr 0), some (.inl (nI X)), some (.inr 20), some (.inr 21), some (.inl (nI Y)), some (.inl (nI a)), some (.inl (nI (Y % 3))), some (.inl (nI (Y / 3 % 2))), none, none, some (.inl (nI (k + 1)))]) (S' := []) (M' := (xm P (f2 (cpt h l (k + 1)) h))) rfl rfl rfl rfl ?_
    refine zg_goto (tgt := 283) dL_act_308 rfl ?_
    exact ih (k + 1) ce sl (by omega) hh
theorem ac_280 (q : ZQ) (hq : q.1.stackTraces = false) (X Y a : Nat) (hX : X < 2 ^ 31) (hY : Y < 2 ^ 28) (ha : a < 48) (P : Mem) (l h : Nat → Int32) {ce sl : Nat} (hc : ce + 1 ≤ 2 ∧ sl + 6 ≤ 12) : Zg (zgA q) mL_act 2 12 ce sl (.inl (some (if Y % 3 = 0 then (f_X4_abandon P).1 else (f_X4_scrub P).1)), (xm (if Y % 3 = 0 then (f_X4_abandon P).2 else (f_X4_scrub P).2) (f2 (if Y % 3 = 0 then cpt h l 48 else l) h))) 280 [some (.inr 0), some (.inl (nI X)), some (.inr 20), some (.inr 21), some (.inl (nI Y)), some (.inl (nI a)), some (.inl (nI (Y % 3))), some (.inl (nI (Y / 3 % 2))), none, none, none] [] (xm P (f2 l h)) := by
  by_cases h0 : Y % 3 = 0
  · rw [if_pos h0, if_pos h0, if_pos h0]
    refine zg_iconst (v := nI 0) dL_act_280 (by decide) ?_
    refine zg_istore dL_act_281 (by decide) ?_
    refine zg_st (pc' := 283) (L' := [some (.inr 0), some (.inl (nI X)), some (.inr 20), some (.inr 21), some (.inl (nI Y)), some (.inl (nI a)), some (.inl (nI (Y % 3))), some (.inl (nI (Y / 3 % 2))), none, none, some (.inl (nI 0))]) (S' := []) (M' := (xm P (f2 l h))) rfl rfl rfl rfl ?_
    have e0 : (xm P (f2 l h)) = (xm P (f2 (cpt h l 0) h)) := by rw [cpt_0]
    rw [e0]
    refine ac_283 q hq X Y a hX hY ha P l h h0 _ 48 0 ce sl (by omega) ?_
    refine zg_iload (x := nI Y) dL_act_311 rfl ?_
    refine zg_iconst (v := nI 3) dL_act_313 (by decide) ?_
    refine zg_iremN dL_act_314 (by omega) (by omega) (by omega) ?_
    refine zg_jf (tgt := 325) dL_act_315 rfl (show ¬ ¬ (nI (Y % 3) = 0) by rw [h0]; decide) ?_
    refine zg_aload_n (x := 0) dL_act_318 rfl ?_
    refine zg_cV1 (As := []) (S := []) (k := 0) (v := (f_X4_abandon P).1) (N0 := (xm ((f_X4_abandon P).2) (f2 (cpt h l 48) h))) dL_act_319 lk_abandon (XAc (k_X4_abandon q P)) rfl rfl ⟨by decide, by decide⟩ ⟨by omega, by omega⟩ rfl (Nat.le_of_ble_eq_true rfl) ?_
    refine zg_st (pc' := 322) (L' := [some (.inr 0), some (.inl (nI X)), some (.inr 20), some (.inr 21), some (.inl (nI Y)), some (.inl (nI a)), some (.inl (nI (Y % 3))), some (.inl (nI (Y / 3 % 2))), none, none, none]) (S' := [.inl ((f_X4_abandon P).1)]) (M' := (xm ((f_X4_abandon P).2) (f2 (cpt h l 48) h))) rfl rfl rfl rfl ?_
    refine zg_goto (tgt := 329) dL_act_322 rfl ?_
    exact zg_iret dL_act_329 rfl rfl ⟨by omega, by omega⟩ rfl
  · rw [if_neg h0, if_neg h0, if_neg h0]
    refine zg_iconst (v := nI 0) dL_act_280 (by decide) ?_
    refine zg_istore dL_act_281 (by decide) ?_
    refine zg_st (pc' := 283) (L' := [some (.inr 0), some (.inl (nI X)), some (.inr 20), some (.inr 21), some (.inl (nI Y)), some (.inl (nI a)), some (.inl (nI (Y % 3))), some (.inl (nI (Y / 3 % 2))), none, none, some (.inl (nI 0))]) (S' := []) (M' := (xm P (f2 l h))) rfl rfl rfl rfl ?_
    refine zg_iload (x := nI 0) dL_act_283 rfl ?_
    refine zg_bipush (v := nI 48) dL_act_285 (by decide) ?_
    refine zg_jf2 (tgt := 311) dL_act_287 rfl (nI_ge (by omega) (by decide)) ?_
    refine zg_iload (x := nI Y) dL_act_290 rfl ?_
    refine zg_iconst (v := nI 3) dL_act_292 (by decide) ?_
    refine zg_iremN dL_act_293 (by omega) (by omega) (by omega) ?_
    refine zg_jt (tgt := 311) dL_act_294 rfl (show ¬ (nI (Y % 3) = 0) from nI_ne0 (by omega) (by omega)) ?_
    refine zg_iload (x := nI Y) dL_act_311 rfl ?_
    refine zg_iconst (v := nI 3) dL_act_313 (by decide) ?_
    refine zg_iremN dL_act_314 (by omega) (by omega) (by omega) ?_
    refine zg_jt (tgt := 325) dL_act_315 rfl (show ¬ (nI (Y % 3) = 0) from nI_ne0 (by omega) (by omega)) ?_
    refine zg_aload_n (x := 0) dL_act_325 rfl ?_
    refine zg_cV1 (As := []) (S := []) (k := 0) (v := (f_X4_scrub P).1) (N0 := (xm ((f_X4_scrub P).2) (f2 l h))) dL_act_326 lk_scrub (XAc (k_X4_scrub q P)) rfl rfl ⟨by decide, by decide⟩ ⟨by omega, by omega⟩ rfl (Nat.le_of_ble_eq_true rfl) ?_
    refine zg_st (pc' := 329) (L' := [some (.inr 0), some (.inl (nI X)), some (.inr 20), some (.inr 21), some (.inl (nI Y)), some (.inl (nI a)), some (.inl (nI (Y % 3))), some (.inl (nI (Y / 3 % 2))), none, none, some (.inl (nI 0))]) (S' := [.inl ((f_X4_scrub P).1)]) (M' := (xm ((f_X4_scrub P).2) (f2 l h))) rfl rfl rfl rfl ?_
    exact zg_iret dL_act_329 rfl rfl ⟨by omega, by omega⟩ rfl
theorem ac_330a (q : ZQ) (hq : q.1.stackTraces = false) (X Y a : Nat) (hX : X < 2 ^ 31) (hY : Y < 2 ^ 28) (ha : a < 48) (P : Mem) (l h : Nat → Int32) (h0 : X % 3 = 0) {ce sl : Nat} (hc : ce + 1 ≤ 2 ∧ sl + 6 ≤ 12) : Zg (zgA q) mL_act 2 12 ce sl (.inl (some (eB (f_X4_spoil (nI (Y % 3)) (nI (Y / 3 % 2)) (nI ((Y / 6) % 40)) P).1)), (xm ((f_X4_spoil (nI (Y % 3)) (nI (Y / 3 % 2)) (nI ((Y / 6) % 40)) P).2) (f2 l h))) 330 [some (.inr 0), some (.inl (nI X)), some (.inr 20), some (.inr 21), some (.inl (nI Y)), some (.inl (nI a)), some (.inl (nI (Y % 3))), some (.inl (nI (Y / 3 % 2))), none, none, none] [] (xm P (f2 l h)) := by
  refine zg_aload_n (x := 0) dL_act_330 rfl ?_
  refine zg_iload (x := nI (Y % 3)) dL_act_331 rfl ?_
  refine zg_iload (x := nI (Y / 3 % 2)) dL_act_333 rfl ?_
  refine zg_iload (x := nI Y) dL_act_335 rfl ?_
  refine zg_bipush (v := nI 6) dL_act_337 (by decide) ?_
  refine zg_idivN dL_act_339 (by omega) (by omega) (by omega) ?_
  refine zg_iload_n (x := nI X) dL_act_340 rfl ?_
  refine zg_iconst (v := nI 3) dL_act_341 (by decide) ?_
  refine zg_iremN dL_act_342 (by omega) (by omega) (by omega) ?_
  refine zg_jf (tgt := 351) dL_act_343 rfl (show ¬ ¬ (nI (X % 3) = 0) by rw [h0]; decide) ?_
  refine zg_bipush (v := nI 40) dL_act_346 (by decide) ?_
  refine zg_goto (tgt := 353) dL_act_348 rfl ?_
  refine zg_iremN dL_act_353 (by omega) (by omega) (by omega) ?_
  refine zg_cW (As := [.inr 0, .inl (nI (Y % 3)), .inl (nI (Y / 3 % 2)), .inl (nI ((Y / 6) % 40))]) (S := []) (k := eB (f_X4_spoil (nI (Y % 3)) (nI (Y / 3 % 2)) (nI ((Y / 6) % 40)) P).1) (N := (xm ((f_X4_spoil (nI (Y % 3)) (nI (Y / 3 % 2)) (nI ((Y / 6) % 40)) P).2) (f2 l h))) dL_act_354 (XA (w_spoils q hq (nI (Y % 3)) (nI (Y / 3 % 2)) (nI ((Y / 6) % 40)) P)) lk_spoils.1 lk_spoils.2 zi_L_spoils rfl ⟨by decide, by decide⟩ ⟨by omega, by omega⟩ rfl (Nat.le_of_ble_eq_true rfl) ?_
  refine zg_st (pc' := 357) (L' := [some (.inr 0), some (.inl (nI X)), some (.inr 20), some (.inr 21), some (.inl (nI Y)), some (.inl (nI a)), some (.inl (nI (Y % 3))), some (.inl (nI (Y / 3 % 2))), none, none, none]) (S' := [.inl (eB (f_X4_spoil (nI (Y % 3)) (nI (Y / 3 % 2)) (nI ((Y / 6) % 40)) P).1)]) (M' := (xm ((f_X4_spoil (nI (Y % 3)) (nI (Y / 3 % 2)) (nI ((Y / 6) % 40)) P).2) (f2 l h))) rfl rfl rfl rfl ?_
  exact zg_iret dL_act_357 rfl rfl ⟨by omega, by omega⟩ rfl
theorem ac_330b (q : ZQ) (hq : q.1.stackTraces = false) (X Y a : Nat) (hX : X < 2 ^ 31) (hY : Y < 2 ^ 28) (ha : a < 48) (P : Mem) (l h : Nat → Int32) (h0 : ¬ X % 3 = 0) {ce sl : Nat} (hc : ce + 1 ≤ 2 ∧ sl + 6 ≤ 12) : Zg (zgA q) mL_act 2 12 ce sl (.inl (some (eB (f_X4_spoil (nI (Y % 3)) (nI (Y / 3 % 2)) (nI ((Y / 6) % 7)) P).1)), (xm ((f_X4_spoil (nI (Y % 3)) (nI (Y / 3 % 2)) (nI ((Y / 6) % 7)) P).2) (f2 l h))) 330 [some (.inr 0), some (.inl (nI X)), some (.inr 20), some (.inr 21), some (.inl (nI Y)), some (.inl (nI a)), some (.inl (nI (Y % 3))), some (.inl (nI (Y / 3 % 2))), none, none, none] [] (xm P (f2 l h)) := by
  refine zg_aload_n (x := 0) dL_act_330 rfl ?_
  refine zg_iload (x := nI (Y % 3)) dL_act_331 rfl ?_
  refine zg_iload (x := nI (Y / 3 % 2)) dL_act_333 rfl ?_
  refine zg_iload (x := nI Y) dL_act_335 rfl ?_
  refine zg_bipush (v := nI 6) dL_act_337 (by decide) ?_
  refine zg_idivN dL_act_339 (by omega) (by omega) (by omega) ?_
  refine zg_iload_n (x := nI X) dL_act_340 rfl ?_
  refine zg_iconst (v := nI 3) dL_act_341 (by decide) ?_
  refine zg_iremN dL_act_342 (by omega) (by omega) (by omega) ?_
  refine zg_jt (tgt := 351) dL_act_343 rfl (show ¬ (nI (X % 3) = 0) from nI_ne0 (by omega) (by omega)) ?_
  refine zg_bipush (v := nI 7) dL_act_351 (by decide) ?_
  refine zg_iremN dL_act_353 (by omega) (by omega) (by omega) ?_
  refine zg_cW (As := [.inr 0, .inl (nI (Y % 3)), .inl (nI (Y / 3 % 2)), .inl (nI ((Y / 6) % 7))]) (S := []) (k := eB (f_X4_spoil (nI (Y % 3)) (nI (Y / 3 % 2)) (nI ((Y / 6) % 7)) P).1) (N := (xm ((f_X4_spoil (nI (Y % 3)) (nI (Y / 3 % 2)) (nI ((Y / 6) % 7)) P).2) (f2 l h))) dL_act_354 (XA (w_spoils q hq (nI (Y % 3)) (nI (Y / 3 % 2)) (nI ((Y / 6) % 7)) P)) lk_spoils.1 lk_spoils.2 zi_L_spoils rfl ⟨by decide, by decide⟩ ⟨by omega, by omega⟩ rfl (Nat.le_of_ble_eq_true rfl) ?_
  refine zg_st (pc' := 357) (L' := [some (.inr 0), some (.inl (nI X)), some (.inr 20), some (.inr 21), some (.inl (nI Y)), some (.inl (nI a)), some (.inl (nI (Y % 3))), some (.inl (nI (Y / 3 % 2))), none, none, none]) (S' := [.inl (eB (f_X4_spoil (nI (Y % 3)) (nI (Y / 3 % 2)) (nI ((Y / 6) % 7)) P).1)]) (M' := (xm ((f_X4_spoil (nI (Y % 3)) (nI (Y / 3 % 2)) (nI ((Y / 6) % 7)) P).2) (f2 l h))) rfl rfl rfl rfl ?_
  exact zg_iret dL_act_357 rfl rfl ⟨by omega, by omega⟩ rfl
theorem ac_358 (q : ZQ) (hq : q.1.stackTraces = false) (X Y a : Nat) (hX : X < 2 ^ 31) (hY : Y < 2 ^ 28) (ha : a < 48) (P : Mem) (l h : Nat → Int32) {ce sl : Nat} (hc : ce + 1 ≤ 2 ∧ sl + 6 ≤ 12) : Zg (zgA q) mL_act 2 12 ce sl (.inl (some (eV (f_X4_offline (nI (Y % 3)) (nI (Y / 3 % 2)) P).1)), (xm ((f_X4_offline (nI (Y % 3)) (nI (Y / 3 % 2)) P).2) (f2 l h))) 358 [some (.inr 0), some (.inl (nI X)), some (.inr 20), some (.inr 21), some (.inl (nI Y)), some (.inl (nI a)), some (.inl (nI (Y % 3))), some (.inl (nI (Y / 3 % 2))), none, none, none] [] (xm P (f2 l h)) := by
  refine zg_aload_n (x := 0) dL_act_358 rfl ?_
  refine zg_iload (x := nI (Y % 3)) dL_act_359 rfl ?_
  refine zg_iload (x := nI (Y / 3 % 2)) dL_act_361 rfl ?_
  refine zg_cW (As := [.inr 0, .inl (nI (Y % 3)), .inl (nI (Y / 3 % 2))]) (S := []) (k := eV (f_X4_offline (nI (Y % 3)) (nI (Y / 3 % 2)) P).1) (N := (xm ((f_X4_offline (nI (Y % 3)) (nI (Y / 3 % 2)) P).2) (f2 l h))) dL_act_363 (XA (w_leaves q hq (nI (Y % 3)) (nI (Y / 3 % 2)) P)) lk_leaves.1 lk_leaves.2 zi_L_leaves rfl ⟨by decide, by decide⟩ ⟨by omega, by omega⟩ rfl (Nat.le_of_ble_eq_true rfl) ?_
  refine zg_st (pc' := 366) (L' := [some (.inr 0), some (.inl (nI X)), some (.inr 20), some (.inr 21), some (.inl (nI Y)), some (.inl (nI a)), some (.inl (nI (Y % 3))), some (.inl (nI (Y / 3 % 2))), none, none, none]) (S' := [.inl (eV (f_X4_offline (nI (Y % 3)) (nI (Y / 3 % 2)) P).1)]) (M' := (xm ((f_X4_offline (nI (Y % 3)) (nI (Y / 3 % 2)) P).2) (f2 l h))) rfl rfl rfl rfl ?_
  exact zg_iret dL_act_366 rfl rfl ⟨by omega, by omega⟩ rfl
theorem ac_367 (q : ZQ) (hq : q.1.stackTraces = false) (X Y a : Nat) (hX : X < 2 ^ 31) (hY : Y < 2 ^ 28) (ha : a < 48) (P : Mem) (l h : Nat → Int32) {ce sl : Nat} (hc : ce + 1 ≤ 2 ∧ sl + 6 ≤ 12) : Zg (zgA q) mL_act 2 12 ce sl (.inl (some (eI (f_X4_online (nI (Y % 3)) (nI (Y / 3 % 2)) P).1)), (xm ((f_X4_online (nI (Y % 3)) (nI (Y / 3 % 2)) P).2) (f2 l h))) 367 [some (.inr 0), some (.inl (nI X)), some (.inr 20), some (.inr 21), some (.inl (nI Y)), some (.inl (nI a)), some (.inl (nI (Y % 3))), some (.inl (nI (Y / 3 % 2))), none, none, none] [] (xm P (f2 l h)) := by
  refine zg_aload_n (x := 0) dL_act_367 rfl ?_
  refine zg_iload (x := nI (Y % 3)) dL_act_368 rfl ?_
  refine zg_iload (x := nI (Y / 3 % 2)) dL_act_370 rfl ?_
  refine zg_cW (As := [.inr 0, .inl (nI (Y % 3)), .inl (nI (Y / 3 % 2))]) (S := []) (k := eI (f_X4_online (nI (Y % 3)) (nI (Y / 3 % 2)) P).1) (N := (xm ((f_X4_online (nI (Y % 3)) (nI (Y / 3 % 2)) P).2) (f2 l h))) dL_act_372 (XA (w_returns q hq (nI (Y % 3)) (nI (Y / 3 % 2)) P)) lk_returns.1 lk_returns.2 zi_L_returns rfl ⟨by decide, by decide⟩ ⟨by omega, by omega⟩ rfl (Nat.le_of_ble_eq_true rfl) ?_
  refine zg_st (pc' := 375) (L' := [some (.inr 0), some (.inl (nI X)), some (.inr 20), some (.inr 21), some (.inl (nI Y)), some (.inl (nI a)), some (.inl (nI (Y % 3))), some (.inl (nI (Y / 3 % 2))), none, none, none]) (S' := [.inl (eI (f_X4_online (nI (Y % 3)) (nI (Y / 3 % 2)) P).1)]) (M' := (xm ((f_X4_online (nI (Y % 3)) (nI (Y / 3 % 2)) P).2) (f2 l h))) rfl rfl rfl rfl ?_
  exact zg_iret dL_act_375 rfl rfl ⟨by omega, by omega⟩ rfl
theorem ac_376 (q : ZQ) (hq : q.1.stackTraces = false) (X Y a : Nat) (hX : X < 2 ^ 31) (hY : Y < 2 ^ 28) (ha : a < 48) (P : Mem) (l h : Nat → Int32) {ce sl : Nat} (hc : ce + 1 ≤ 2 ∧ sl + 6 ≤ 12) : Zg (zgA q) mL_act 2 12 ce sl (.inl (some (eI (f_X4_read (nI (a / 12)) (nI (a % 12)) P).1)), (xm ((f_X4_read (nI (a / 12)) (nI (a % 12)) P).2) (f2 l h))) 376 [some (.inr 0), some (.inl (nI X)), some (.inr 20), some (.inr 21), some (.inl (nI Y)), some (.inl (nI a)), some (.inl (nI (Y % 3))), some (.inl (nI (Y / 3 % 2))), none, none, none] [] (xm P (f2 l h)) := by
  refine zg_aload_n (x := 0) dL_act_376 rfl ?_
  refine zg_iload (x := nI a) dL_act_377 rfl ?_
  refine zg_bipush (v := nI 12) dL_act_379 (by decide) ?_
  refine zg_idivN dL_act_381 (by omega) (by omega) (by omega) ?_
  refine zg_iload (x := nI a) dL_act_382 rfl ?_
  refine zg_bipush (v := nI 12) dL_act_384 (by decide) ?_
  refine zg_iremN dL_act_386 (by omega) (by omega) (by omega) ?_
  refine zg_cW (As := [.inr 0, .inl (nI (a / 12)), .inl (nI (a % 12))]) (S := []) (k := eI (f_X4_read (nI (a / 12)) (nI (a % 12)) P).1) (N := (xm ((f_X4_read (nI (a / 12)) (nI (a % 12)) P).2) (f2 l h))) dL_act_387 (XA (w_reads q hq (nI (a / 12)) (nI (a % 12)) P)) lk_reads.1 lk_reads.2 zi_L_reads rfl ⟨by decide, by decide⟩ ⟨by omega, by omega⟩ rfl (Nat.le_of_ble_eq_true rfl) ?_
  refine zg_st (pc' := 390) (L' := [some (.inr 0), some (.inl (nI X)), some (.inr 20), some (.inr 21), some (.inl (nI Y)), some (.inl (nI a)), some (.inl (nI (Y % 3))), some (.inl (nI (Y / 3 % 2))), none, none, none]) (S' := [.inl (eI (f_X4_read (nI (a / 12)) (nI (a % 12)) P).1)]) (M' := (xm ((f_X4_read (nI (a / 12)) (nI (a % 12)) P).2) (f2 l h))) rfl rfl rfl rfl ?_
  exact zg_iret dL_act_390 rfl rfl ⟨by omega, by omega⟩ rfl
/-- what an act answers and leaves: the class's memory, last, held -/
def acA (X : Nat) : Nat := (X / 16) % (if X % 3 = 0 then 48 else 20)
theorem acA_lt (X : Nat) : acA X < 48 := by unfold acA; split <;> omega
def acB (r : Int32) (P : Mem) (l h : Nat → Int32) : Int32 × Mem × (Nat → Int32) × (Nat → Int32) := (r, P, l, h)
def f_act (X : Nat) (P : Mem) (l h : Nat → Int32) : Int32 × Mem × (Nat → Int32) × (Nat → Int32) :=
  if X % 16 < 4 then acB (eI (f_X4_write (nI (acA X / 12)) (nI (acA X % 12)) (nI (1 + (X / 16 / 48) % 9999)) P).1) (f_X4_write (nI (acA X / 12)) (nI (acA X % 12)) (nI (1 + (X / 16 / 48) % 9999)) P).2 (upd l (acA X) (nI (1 + (X / 16 / 48) % 9999))) h
  else if X % 16 = 4 then acB (eI (f_X4_punch (nI (acA X / 12)) (nI (acA X % 12)) (nI (acA X % 12 + (X / 16 / 48) % (12 - acA X % 12))) P).1) (f_X4_punch (nI (acA X / 12)) (nI (acA X % 12)) (nI (acA X % 12 + (X / 16 / 48) % (12 - acA X % 12))) P).2 (lzt l (acA X) (acA X - acA X % 12 + (acA X % 12 + (X / 16 / 48) % (12 - acA X % 12) + 1))) h
  else if X % 16 = 5 then acB (eI (f_X4_setCopies (nI (acA X / 12)) (nI (1 + (X / 16 / 48) % 2)) P).1) (f_X4_setCopies (nI (acA X / 12)) (nI (1 + (X / 16 / 48) % 2)) P).2 l h
  else if X % 16 < 9 then acB (eI (f_X4_sync P).1) (f_X4_sync P).2 l (if eI (f_X4_sync P).1 < 0 then h else cpt l h 48)
  else if X % 16 = 9 then acB (if X / 16 % 3 = 0 then (f_X4_abandon P).1 else (f_X4_scrub P).1) (if X / 16 % 3 = 0 then (f_X4_abandon P).2 else (f_X4_scrub P).2) (if X / 16 % 3 = 0 then cpt h l 48 else l) h
  else if X % 16 < 13 then acB (eB (f_X4_spoil (nI (X / 16 % 3)) (nI (X / 16 / 3 % 2)) (nI ((X / 16 / 6) % (if X % 3 = 0 then 40 else 7))) P).1) (f_X4_spoil (nI (X / 16 % 3)) (nI (X / 16 / 3 % 2)) (nI ((X / 16 / 6) % (if X % 3 = 0 then 40 else 7))) P).2 l h
  else if X % 16 = 13 then acB (eV (f_X4_offline (nI (X / 16 % 3)) (nI (X / 16 / 3 % 2)) P).1) (f_X4_offline (nI (X / 16 % 3)) (nI (X / 16 / 3 % 2)) P).2 l h
  else if X % 16 = 14 then acB (eI (f_X4_online (nI (X / 16 % 3)) (nI (X / 16 / 3 % 2)) P).1) (f_X4_online (nI (X / 16 % 3)) (nI (X / 16 / 3 % 2)) P).2 l h
  else acB (eI (f_X4_read (nI (acA X / 12)) (nI (acA X % 12)) P).1) (f_X4_read (nI (acA X / 12)) (nI (acA X % 12)) P).2 l h
def wA (z : Int32 × Mem × (Nat → Int32) × (Nat → Int32)) : ZR := (.inl (some z.1), xm z.2.1 (f2 z.2.2.1 z.2.2.2))
section ZTB
variable {g : ZG} {μ : MI} {mc ms ce sl : Nat} {B : ZR} {pc : Nat} {L : List (Option SV)} {S : List SV} {M : Mem}
theorem zg_tabI {dflt lo hi off : Int} {offs : Array Int} {len n tgt : Nat} (d : decode μ.2.1 pc = .ok (.tableswitch dflt lo hi offs, len)) (hn : n < 2 ^ 31) (hlo : lo = 0) (hhi : (n : Int) ≤ hi) (ho : offs[n]? = some off) (ht : (pc : Int) + off = (tgt : Int)) (h : Zg g μ mc ms ce sl B tgt L S M) : Zg g μ mc ms ce sl B pc L (.inl (nI n) :: S) M :=
  fun p e s m args below meth c H locs ls sz C hP hD hS hL => lv_tableIn C.1 C.2.1 d (by rw [nI_toInt hn]; omega) (by rw [nI_toInt hn]; omega) (by rw [nI_toInt hn, hlo]; simpa using ho) ht (h p e s m args below meth c H locs ls sz C hP hD hS hL)
theorem zg_tabO {dflt lo hi : Int} {offs : Array Int} {len n tgt : Nat} (d : decode μ.2.1 pc = .ok (.tableswitch dflt lo hi offs, len)) (hn : n < 2 ^ 31) (hhi : hi < (n : Int)) (ht : (pc : Int) + dflt = (tgt : Int)) (h : Zg g μ mc ms ce sl B tgt L S M) : Zg g μ mc ms ce sl B pc L (.inl (nI n) :: S) M :=
  fun p e s m args below meth c H locs ls sz C hP hD hS hL => lv_tableOut C.1 C.2.1 d (Or.inr (by rw [nI_toInt hn]; exact hhi)) ht (h p e s m args below meth c H locs ls sz C hP hD hS hL)
end ZTB
theorem ac_42 (q : ZQ) (hq : q.1.stackTraces = false) (X : Nat) (hX : X < 2 ^ 31) (P : Mem) (l h : Nat → Int32) : Zg (zgA q) mL_act 2 12 0 0 (wA (f_act X P l h)) 42 [some (.inr 0), some (.inl (nI X)), some (.inr 20), some (.inr 21), some (.inl (nI (X / 16))), some (.inl (nI (acA X))), some (.inl (nI (X / 16 % 3))), some (.inl (nI (X / 16 / 3 % 2))), none, none, none] [.inl (nI (X % 16))] (xm P (f2 l h)) := by
  have ha := acA_lt X
  have hj : X % 16 = 0 ∨ X % 16 = 1 ∨ X % 16 = 2 ∨ X % 16 = 3 ∨ X % 16 = 4 ∨ X % 16 = 5 ∨ X % 16 = 6 ∨ X % 16 = 7 ∨ X % 16 = 8 ∨ X % 16 = 9 ∨ X % 16 = 10 ∨ X % 16 = 11 ∨ X % 16 = 12 ∨ X % 16 = 13 ∨ X % 16 = 14 ∨ X % 16 = 15 := by omega
  unfold f_act
  rcases hj with hj | hj | hj | hj | hj | hj | hj | hj | hj | hj | hj | hj | hj | hj | hj | hj
  · rw [if_pos (by omega)]
    rw [hj]
    refine zg_tabI (n := 0) (off := 74) (tgt := 116) dL_act_42 (by decide) rfl (by decide) rfl rfl ?_
    exact ac_116 q hq X (X / 16) (acA X) hX (by omega) ha P l h ⟨by decide, by decide⟩
  · rw [if_pos (by omega)]
    rw [hj]
    refine zg_tabI (n := 1) (off := 74) (tgt := 116) dL_act_42 (by decide) rfl (by decide) rfl rfl ?_
    exact ac_116 q hq X (X / 16) (acA X) hX (by omega) ha P l h ⟨by decide, by decide⟩
  · rw [if_pos (by omega)]
    rw [hj]
    refine zg_tabI (n := 2) (off := 74) (tgt := 116) dL_act_42 (by decide) rfl (by decide) rfl rfl ?_
    exact ac_116 q hq X (X / 16) (acA X) hX (by omega) ha P l h ⟨by decide, by decide⟩
  · rw [if_pos (by omega)]
    rw [hj]
    refine zg_tabI (n := 3) (off := 74) (tgt := 116) dL_act_42 (by decide) rfl (by decide) rfl rfl ?_
    exact ac_116 q hq X (X / 16) (acA X) hX (by omega) ha P l h ⟨by decide, by decide⟩
  · rw [if_neg (by omega), if_pos (by omega)]
    rw [hj]
    refine zg_tabI (n := 4) (off := 108) (tgt := 150) dL_act_42 (by decide) rfl (by decide) rfl rfl ?_
    exact ac_150 q hq X (X / 16) (acA X) hX (by omega) ha P l h ⟨by decide, by decide⟩
  · rw [if_neg (by omega), if_neg (by omega), if_pos (by omega)]
    rw [hj]
    refine zg_tabI (n := 5) (off := 181) (tgt := 223) dL_act_42 (by decide) rfl (by decide) rfl rfl ?_
    exact ac_223 q hq X (X / 16) (acA X) hX (by omega) ha P l h ⟨by decide, by decide⟩
  · rw [if_neg (by omega), if_neg (by omega), if_neg (by omega), if_pos (by omega)]
    rw [hj]
    refine zg_tabI (n := 6) (off := 200) (tgt := 242) dL_act_42 (by decide) rfl (by decide) rfl rfl ?_
    exact ac_242 q hq X (X / 16) (acA X) hX (by omega) ha P l h ⟨by decide, by decide⟩
  · rw [if_neg (by omega), if_neg (by omega), if_neg (by omega), if_pos (by omega)]
    rw [hj]
    refine zg_tabI (n := 7) (off := 200) (tgt := 242) dL_act_42 (by decide) rfl (by decide) rfl rfl ?_
    exact ac_242 q hq X (X / 16) (acA X) hX (by omega) ha P l h ⟨by decide, by decide⟩
  · rw [if_neg (by omega), if_neg (by omega), if_neg (by omega), if_pos (by omega)]
    rw [hj]
    refine zg_tabI (n := 8) (off := 200) (tgt := 242) dL_act_42 (by decide) rfl (by decide) rfl rfl ?_
    exact ac_242 q hq X (X / 16) (acA X) hX (by omega) ha P l h ⟨by decide, by decide⟩
  · rw [if_neg (by omega), if_neg (by omega), if_neg (by omega), if_neg (by omega), if_pos (by omega)]
    rw [hj]
    refine zg_tabI (n := 9) (off := 238) (tgt := 280) dL_act_42 (by decide) rfl (by decide) rfl rfl ?_
    exact ac_280 q hq X (X / 16) (acA X) hX (by omega) ha P l h ⟨by decide, by decide⟩
  · rw [if_neg (by omega), if_neg (by omega), if_neg (by omega), if_neg (by omega), if_neg (by omega), if_pos (by omega)]
    rw [hj]
    refine zg_tabI (n := 10) (off := 288) (tgt := 330) dL_act_42 (by decide) rfl (by decide) rfl rfl ?_
    by_cases h3 : X % 3 = 0
    · rw [if_pos h3]; exact ac_330a q hq X (X / 16) (acA X) hX (by omega) ha P l h h3 ⟨by decide, by decide⟩
    · rw [if_neg h3]; exact ac_330b q hq X (X / 16) (acA X) hX (by omega) ha P l h h3 ⟨by decide, by decide⟩
  · rw [if_neg (by omega), if_neg (by omega), if_neg (by omega), if_neg (by omega), if_neg (by omega), if_pos (by omega)]
    rw [hj]
    refine zg_tabI (n := 11) (off := 288) (tgt := 330) dL_act_42 (by decide) rfl (by decide) rfl rfl ?_
    by_cases h3 : X % 3 = 0
    · rw [if_pos h3]; exact ac_330a q hq X (X / 16) (acA X) hX (by omega) ha P l h h3 ⟨by decide, by decide⟩
    · rw [if_neg h3]; exact ac_330b q hq X (X / 16) (acA X) hX (by omega) ha P l h h3 ⟨by decide, by decide⟩
  · rw [if_neg (by omega), if_neg (by omega), if_neg (by omega), if_neg (by omega), if_neg (by omega), if_pos (by omega)]
    rw [hj]
    refine zg_tabI (n := 12) (off := 288) (tgt := 330) dL_act_42 (by decide) rfl (by decide) rfl rfl ?_
    by_cases h3 : X % 3 = 0
    · rw [if_pos h3]; exact ac_330a q hq X (X / 16) (acA X) hX (by omega) ha P l h h3 ⟨by decide, by decide⟩
    · rw [if_neg h3]; exact ac_330b q hq X (X / 16) (acA X) hX (by omega) ha P l h h3 ⟨by decide, by decide⟩
  · rw [if_neg (by omega), if_neg (by omega), if_neg (by omega), if_neg (by omega), if_neg (by omega), if_neg (by omega), if_pos (by omega)]
    rw [hj]
    refine zg_tabI (n := 13) (off := 316) (tgt := 358) dL_act_42 (by decide) rfl (by decide) rfl rfl ?_
    exact ac_358 q hq X (X / 16) (acA X) hX (by omega) ha P l h ⟨by decide, by decide⟩
  · rw [if_neg (by omega), if_neg (by omega), if_neg (by omega), if_neg (by omega), if_neg (by omega), if_neg (by omega), if_neg (by omega), if_pos (by omega)]
    rw [hj]
    refine zg_tabI (n := 14) (off := 325) (tgt := 367) dL_act_42 (by decide) rfl (by decide) rfl rfl ?_
    exact ac_367 q hq X (X / 16) (acA X) hX (by omega) ha P l h ⟨by decide, by decide⟩
  · rw [if_neg (by omega), if_neg (by omega), if_neg (by omega), if_neg (by omega), if_neg (by omega), if_neg (by omega), if_neg (by omega), if_neg (by omega)]
    rw [hj]
    refine zg_tabO (tgt := 376) dL_act_42 (by decide) (by decide) rfl ?_
    exact ac_376 q hq X (X / 16) (acA X) hX (by omega) ha P l h ⟨by decide, by decide⟩
set_option maxRecDepth 100000 in
theorem k_act (q : ZQ) (hq : q.1.stackTraces = false) (X : Nat) (hX : X < 2 ^ 31) (P : Mem) (l h : Nat → Int32) : Zc (zgA q) mL_act 2 12 [.inr 0, .inl (nI X), .inr 20, .inr 21] (xm P (f2 l h)) (wA (f_act X P l h)) := by
  refine Zc.of (by decide) zi_L_act.1 (Nat.le_of_ble_eq_true rfl) rfl ?_
  by_cases h3 : X % 3 = 0
  · refine zg_iload_n (x := nI X) dL_act_0 rfl ?_
    refine zg_bipush (v := nI 16) dL_act_1 (by decide) ?_
    refine zg_idivN dL_act_3 (by omega) (by omega) (by omega) ?_
    refine zg_istore dL_act_4 (by decide) ?_
    refine zg_st (pc' := 6) (L' := [some (.inr 0), some (.inl (nI X)), some (.inr 20), some (.inr 21), some (.inl (nI (X / 16))), none, none, none, none, none, none]) (S' := []) (M' := (xm P (f2 l h))) rfl rfl rfl rfl ?_
    refine zg_iload (x := nI (X / 16)) dL_act_6 rfl ?_
    refine zg_iload_n (x := nI X) dL_act_8 rfl ?_
    refine zg_iconst (v := nI 3) dL_act_9 (by decide) ?_
    refine zg_iremN dL_act_10 (by omega) (by omega) (by omega) ?_
    refine zg_jf (tgt := 19) dL_act_11 rfl (show ¬ ¬ (nI (X % 3) = 0) by rw [h3]; decide) ?_
    refine zg_bipush (v := nI 48) dL_act_14 (by decide) ?_
    refine zg_goto (tgt := 21) dL_act_16 rfl ?_
    refine zg_iremN dL_act_21 (by omega) (by omega) (by omega) ?_
    have ea : (X / 16) % 48 = acA X := by unfold acA; rw [if_pos h3]
    rw [ea]
    refine zg_istore dL_act_22 (by decide) ?_
    refine zg_st (pc' := 24) (L' := [some (.inr 0), some (.inl (nI X)), some (.inr 20), some (.inr 21), some (.inl (nI (X / 16))), some (.inl (nI (acA X))), none, none, none, none, none]) (S' := []) (M' := (xm P (f2 l h))) rfl rfl rfl rfl ?_
    refine zg_iload (x := nI (X / 16)) dL_act_24 rfl ?_
    refine zg_iconst (v := nI 3) dL_act_26 (by decide) ?_
    refine zg_iremN dL_act_27 (by omega) (by omega) (by omega) ?_
    refine zg_istore dL_act_28 (by decide) ?_
    refine zg_st (pc' := 30) (L' := [some (.inr 0), some (.inl (nI X)), some (.inr 20), some (.inr 21), some (.inl (nI (X / 16))), some (.inl (nI (acA X))), some (.inl (nI ((X / 16) % 3))), none, none, none, none]) (S' := []) (M' := (xm P (f2 l h))) rfl rfl rfl rfl ?_
    refine zg_iload (x := nI (X / 16)) dL_act_30 rfl ?_
    refine zg_iconst (v := nI 3) dL_act_32 (by decide) ?_
    refine zg_idivN dL_act_33 (by omega) (by omega) (by omega) ?_
    refine zg_iconst (v := nI 2) dL_act_34 (by decide) ?_
    refine zg_iremN dL_act_35 (by omega) (by omega) (by omega) ?_
    refine zg_istore dL_act_36 (by decide) ?_
    refine zg_st (pc' := 38) (L' := [some (.inr 0), some (.inl (nI X)), some (.inr 20), some (.inr 21), some (.inl (nI (X / 16))), some (.inl (nI (acA X))), some (.inl (nI ((X / 16) % 3))), some (.inl (nI (((X / 16) / 3) % 2))), none, none, none]) (S' := []) (M' := (xm P (f2 l h))) rfl rfl rfl rfl ?_
    refine zg_iload_n (x := nI X) dL_act_38 rfl ?_
    refine zg_bipush (v := nI 16) dL_act_39 (by decide) ?_
    refine zg_iremN dL_act_41 (by omega) (by omega) (by omega) ?_
    exact ac_42 q hq X hX P l h
  · refine zg_iload_n (x := nI X) dL_act_0 rfl ?_
    refine zg_bipush (v := nI 16) dL_act_1 (by decide) ?_
    refine zg_idivN dL_act_3 (by omega) (by omega) (by omega) ?_
    refine zg_istore dL_act_4 (by decide) ?_
    refine zg_st (pc' := 6) (L' := [some (.inr 0), some (.inl (nI X)), some (.inr 20), some (.inr 21), some (.inl (nI (X / 16))), none, none, none, none, none, none]) (S' := []) (M' := (xm P (f2 l h))) rfl rfl rfl rfl ?_
    refine zg_iload (x := nI (X / 16)) dL_act_6 rfl ?_
    refine zg_iload_n (x := nI X) dL_act_8 rfl ?_
    refine zg_iconst (v := nI 3) dL_act_9 (by decide) ?_
    refine zg_iremN dL_act_10 (by omega) (by omega) (by omega) ?_
    refine zg_jt (tgt := 19) dL_act_11 rfl (show ¬ (nI (X % 3) = 0) from nI_ne0 (by omega) (by omega)) ?_
    refine zg_bipush (v := nI 20) dL_act_19 (by decide) ?_
    refine zg_iremN dL_act_21 (by omega) (by omega) (by omega) ?_
    have ea : (X / 16) % 20 = acA X := by unfold acA; rw [if_neg h3]
    rw [ea]
    refine zg_istore dL_act_22 (by decide) ?_
    refine zg_st (pc' := 24) (L' := [some (.inr 0), some (.inl (nI X)), some (.inr 20), some (.inr 21), some (.inl (nI (X / 16))), some (.inl (nI (acA X))), none, none, none, none, none]) (S' := []) (M' := (xm P (f2 l h))) rfl rfl rfl rfl ?_
    refine zg_iload (x := nI (X / 16)) dL_act_24 rfl ?_
    refine zg_iconst (v := nI 3) dL_act_26 (by decide) ?_
    refine zg_iremN dL_act_27 (by omega) (by omega) (by omega) ?_
    refine zg_istore dL_act_28 (by decide) ?_
    refine zg_st (pc' := 30) (L' := [some (.inr 0), some (.inl (nI X)), some (.inr 20), some (.inr 21), some (.inl (nI (X / 16))), some (.inl (nI (acA X))), some (.inl (nI ((X / 16) % 3))), none, none, none, none]) (S' := []) (M' := (xm P (f2 l h))) rfl rfl rfl rfl ?_
    refine zg_iload (x := nI (X / 16)) dL_act_30 rfl ?_
    refine zg_iconst (v := nI 3) dL_act_32 (by decide) ?_
    refine zg_idivN dL_act_33 (by omega) (by omega) (by omega) ?_
    refine zg_iconst (v := nI 2) dL_act_34 (by decide) ?_
    refine zg_iremN dL_act_35 (by omega) (by omega) (by omega) ?_
    refine zg_istore dL_act_36 (by decide) ?_
    refine zg_st (pc' := 38) (L' := [some (.inr 0), some (.inl (nI X)), some (.inr 20), some (.inr 21), some (.inl (nI (X / 16))), some (.inl (nI (acA X))), some (.inl (nI ((X / 16) % 3))), some (.inl (nI (((X / 16) / 3) % 2))), none, none, none]) (S' := []) (M' := (xm P (f2 l h))) rfl rfl rfl rfl ?_
    refine zg_iload_n (x := nI X) dL_act_38 rfl ?_
    refine zg_bipush (v := nI 16) dL_act_39 (by decide) ?_
    refine zg_iremN dL_act_41 (by omega) (by omega) (by omega) ?_
    exact ac_42 q hq X hX P l h
end
