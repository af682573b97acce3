theorem dX5_sync_0 : decode cX5_sync 0 = .ok (.aload_n 0, 1) := by decide +kernel
theorem dX5_sync_1 : decode cX5_sync 1 = .ok (.aload_n 0, 1) := by decide +kernel
theorem dX5_sync_2 : decode cX5_sync 2 = .ok (.invokevirtual 132, 3) := by decide +kernel
theorem dX5_sync_5 : decode cX5_sync 5 = .ok (.ifCond .eq 7, 3) := by decide +kernel
theorem dX5_sync_8 : decode cX5_sync 8 = .ok (.iconst 0, 1) := by decide +kernel
theorem dX5_sync_9 : decode cX5_sync 9 = .ok (.goto 4, 3) := by decide +kernel
theorem dX5_sync_12 : decode cX5_sync 12 = .ok (.iconst 1, 1) := by decide +kernel
theorem dX5_sync_13 : decode cX5_sync 13 = .ok (.invokevirtual 74, 3) := by decide +kernel
theorem dX5_sync_16 : decode cX5_sync 16 = .ok (.ifCond .eq 5, 3) := by decide +kernel
theorem dX5_sync_19 : decode cX5_sync 19 = .ok (.iconst 0, 1) := by decide +kernel
theorem dX5_sync_20 : decode cX5_sync 20 = .ok (.ireturn, 1) := by decide +kernel
theorem dX5_sync_21 : decode cX5_sync 21 = .ok (.iconst 0, 1) := by decide +kernel
theorem dX5_sync_22 : decode cX5_sync 22 = .ok (.istore_n 1, 1) := by decide +kernel
theorem dX5_sync_23 : decode cX5_sync 23 = .ok (.iload_n 1, 1) := by decide +kernel
theorem dX5_sync_24 : decode cX5_sync 24 = .ok (.bipush 120, 2) := by decide +kernel
theorem dX5_sync_26 : decode cX5_sync 26 = .ok (.if_icmp .ge 16, 3) := by decide +kernel
theorem dX5_sync_29 : decode cX5_sync 29 = .ok (.aload_n 0, 1) := by decide +kernel
theorem dX5_sync_30 : decode cX5_sync 30 = .ok (.getfield 51, 3) := by decide +kernel
theorem dX5_sync_33 : decode cX5_sync 33 = .ok (.iload_n 1, 1) := by decide +kernel
theorem dX5_sync_34 : decode cX5_sync 34 = .ok (.iconst 0, 1) := by decide +kernel
theorem dX5_sync_35 : decode cX5_sync 35 = .ok (.bastore, 1) := by decide +kernel
theorem dX5_sync_36 : decode cX5_sync 36 = .ok (.iinc 1 1, 3) := by decide +kernel
theorem dX5_sync_39 : decode cX5_sync 39 = .ok (.goto (-16), 3) := by decide +kernel
theorem dX5_sync_42 : decode cX5_sync 42 = .ok (.iconst 0, 1) := by decide +kernel
theorem dX5_sync_43 : decode cX5_sync 43 = .ok (.istore_n 1, 1) := by decide +kernel
theorem dX5_sync_44 : decode cX5_sync 44 = .ok (.iload_n 1, 1) := by decide +kernel
theorem dX5_sync_45 : decode cX5_sync 45 = .ok (.bipush 48, 2) := by decide +kernel
theorem dX5_sync_47 : decode cX5_sync 47 = .ok (.if_icmp .ge 27, 3) := by decide +kernel
theorem dX5_sync_50 : decode cX5_sync 50 = .ok (.aload_n 0, 1) := by decide +kernel
theorem dX5_sync_51 : decode cX5_sync 51 = .ok (.getfield 17, 3) := by decide +kernel
theorem dX5_sync_54 : decode cX5_sync 54 = .ok (.iload_n 1, 1) := by decide +kernel
theorem dX5_sync_55 : decode cX5_sync 55 = .ok (.aload_n 0, 1) := by decide +kernel
theorem dX5_sync_56 : decode cX5_sync 56 = .ok (.iload_n 1, 1) := by decide +kernel
theorem dX5_sync_57 : decode cX5_sync 57 = .ok (.invokevirtual 78, 3) := by decide +kernel
theorem dX5_sync_60 : decode cX5_sync 60 = .ok (.iastore, 1) := by decide +kernel
theorem dX5_sync_61 : decode cX5_sync 61 = .ok (.aload_n 0, 1) := by decide +kernel
theorem dX5_sync_62 : decode cX5_sync 62 = .ok (.getfield 20, 3) := by decide +kernel
theorem dX5_sync_65 : decode cX5_sync 65 = .ok (.iload_n 1, 1) := by decide +kernel
theorem dX5_sync_66 : decode cX5_sync 66 = .ok (.iconst (-1), 1) := by decide +kernel
theorem dX5_sync_67 : decode cX5_sync 67 = .ok (.iastore, 1) := by decide +kernel
theorem dX5_sync_68 : decode cX5_sync 68 = .ok (.iinc 1 1, 3) := by decide +kernel
theorem dX5_sync_71 : decode cX5_sync 71 = .ok (.goto (-27), 3) := by decide +kernel
theorem dX5_sync_74 : decode cX5_sync 74 = .ok (.iconst 0, 1) := by decide +kernel
theorem dX5_sync_75 : decode cX5_sync 75 = .ok (.istore_n 1, 1) := by decide +kernel
theorem dX5_sync_76 : decode cX5_sync 76 = .ok (.iload_n 1, 1) := by decide +kernel
theorem dX5_sync_77 : decode cX5_sync 77 = .ok (.bipush 53, 2) := by decide +kernel
theorem dX5_sync_79 : decode cX5_sync 79 = .ok (.if_icmp .ge 127, 3) := by decide +kernel
theorem dX5_sync_82 : decode cX5_sync 82 = .ok (.aload_n 0, 1) := by decide +kernel
theorem dX5_sync_83 : decode cX5_sync 83 = .ok (.getfield 60, 3) := by decide +kernel
theorem dX5_sync_86 : decode cX5_sync 86 = .ok (.iload_n 1, 1) := by decide +kernel
theorem dX5_sync_87 : decode cX5_sync 87 = .ok (.baload, 1) := by decide +kernel
theorem dX5_sync_88 : decode cX5_sync 88 = .ok (.ifCond .eq 112, 3) := by decide +kernel
theorem dX5_sync_91 : decode cX5_sync 91 = .ok (.aload_n 0, 1) := by decide +kernel
theorem dX5_sync_92 : decode cX5_sync 92 = .ok (.aload_n 0, 1) := by decide +kernel
theorem dX5_sync_93 : decode cX5_sync 93 = .ok (.getfield 23, 3) := by decide +kernel
theorem dX5_sync_96 : decode cX5_sync 96 = .ok (.iload_n 1, 1) := by decide +kernel
theorem dX5_sync_97 : decode cX5_sync 97 = .ok (.iaload, 1) := by decide +kernel
theorem dX5_sync_98 : decode cX5_sync 98 = .ok (.invokevirtual 136, 3) := by decide +kernel
theorem dX5_sync_101 : decode cX5_sync 101 = .ok (.aload_n 0, 1) := by decide +kernel
theorem dX5_sync_102 : decode cX5_sync 102 = .ok (.aload_n 0, 1) := by decide +kernel
theorem dX5_sync_103 : decode cX5_sync 103 = .ok (.getfield 26, 3) := by decide +kernel
theorem dX5_sync_106 : decode cX5_sync 106 = .ok (.iload_n 1, 1) := by decide +kernel
theorem dX5_sync_107 : decode cX5_sync 107 = .ok (.iaload, 1) := by decide +kernel
theorem dX5_sync_108 : decode cX5_sync 108 = .ok (.invokevirtual 136, 3) := by decide +kernel
theorem dX5_sync_111 : decode cX5_sync 111 = .ok (.aload_n 0, 1) := by decide +kernel
theorem dX5_sync_112 : decode cX5_sync 112 = .ok (.getfield 23, 3) := by decide +kernel
theorem dX5_sync_115 : decode cX5_sync 115 = .ok (.iload_n 1, 1) := by decide +kernel
theorem dX5_sync_116 : decode cX5_sync 116 = .ok (.aload_n 0, 1) := by decide +kernel
theorem dX5_sync_117 : decode cX5_sync 117 = .ok (.getfield 54, 3) := by decide +kernel
theorem dX5_sync_120 : decode cX5_sync 120 = .ok (.iload_n 1, 1) := by decide +kernel
theorem dX5_sync_121 : decode cX5_sync 121 = .ok (.iaload, 1) := by decide +kernel
theorem dX5_sync_122 : decode cX5_sync 122 = .ok (.iastore, 1) := by decide +kernel
theorem dX5_sync_123 : decode cX5_sync 123 = .ok (.aload_n 0, 1) := by decide +kernel
theorem dX5_sync_124 : decode cX5_sync 124 = .ok (.getfield 26, 3) := by decide +kernel
theorem dX5_sync_127 : decode cX5_sync 127 = .ok (.iload_n 1, 1) := by decide +kernel
theorem dX5_sync_128 : decode cX5_sync 128 = .ok (.aload_n 0, 1) := by decide +kernel
theorem dX5_sync_129 : decode cX5_sync 129 = .ok (.getfield 57, 3) := by decide +kernel
theorem dX5_sync_132 : decode cX5_sync 132 = .ok (.iload_n 1, 1) := by decide +kernel
theorem dX5_sync_133 : decode cX5_sync 133 = .ok (.iaload, 1) := by decide +kernel
theorem dX5_sync_134 : decode cX5_sync 134 = .ok (.iastore, 1) := by decide +kernel
theorem dX5_sync_135 : decode cX5_sync 135 = .ok (.aload_n 0, 1) := by decide +kernel
theorem dX5_sync_136 : decode cX5_sync 136 = .ok (.aload_n 0, 1) := by decide +kernel
theorem dX5_sync_137 : decode cX5_sync 137 = .ok (.getfield 23, 3) := by decide +kernel
theorem dX5_sync_140 : decode cX5_sync 140 = .ok (.iload_n 1, 1) := by decide +kernel
theorem dX5_sync_141 : decode cX5_sync 141 = .ok (.iaload, 1) := by decide +kernel
theorem dX5_sync_142 : decode cX5_sync 142 = .ok (.invokevirtual 139, 3) := by decide +kernel
theorem dX5_sync_145 : decode cX5_sync 145 = .ok (.aload_n 0, 1) := by decide +kernel
theorem dX5_sync_146 : decode cX5_sync 146 = .ok (.aload_n 0, 1) := by decide +kernel
theorem dX5_sync_147 : decode cX5_sync 147 = .ok (.getfield 26, 3) := by decide +kernel
theorem dX5_sync_150 : decode cX5_sync 150 = .ok (.iload_n 1, 1) := by decide +kernel
theorem dX5_sync_151 : decode cX5_sync 151 = .ok (.iaload, 1) := by decide +kernel
theorem dX5_sync_152 : decode cX5_sync 152 = .ok (.invokevirtual 139, 3) := by decide +kernel
theorem dX5_sync_155 : decode cX5_sync 155 = .ok (.aload_n 0, 1) := by decide +kernel
theorem dX5_sync_156 : decode cX5_sync 156 = .ok (.getfield 29, 3) := by decide +kernel
theorem dX5_sync_159 : decode cX5_sync 159 = .ok (.iload_n 1, 1) := by decide +kernel
theorem dX5_sync_160 : decode cX5_sync 160 = .ok (.aload_n 0, 1) := by decide +kernel
theorem dX5_sync_161 : decode cX5_sync 161 = .ok (.iload_n 1, 1) := by decide +kernel
theorem dX5_sync_162 : decode cX5_sync 162 = .ok (.invokevirtual 92, 3) := by decide +kernel
theorem dX5_sync_165 : decode cX5_sync 165 = .ok (.ifCond .eq 10, 3) := by decide +kernel
theorem dX5_sync_168 : decode cX5_sync 168 = .ok (.aload_n 0, 1) := by decide +kernel
theorem dX5_sync_169 : decode cX5_sync 169 = .ok (.getfield 7, 3) := by decide +kernel
theorem dX5_sync_172 : decode cX5_sync 172 = .ok (.goto 4, 3) := by decide +kernel
theorem dX5_sync_175 : decode cX5_sync 175 = .ok (.iconst 0, 1) := by decide +kernel
theorem dX5_sync_176 : decode cX5_sync 176 = .ok (.iastore, 1) := by decide +kernel
theorem dX5_sync_177 : decode cX5_sync 177 = .ok (.aload_n 0, 1) := by decide +kernel
theorem dX5_sync_178 : decode cX5_sync 178 = .ok (.getfield 32, 3) := by decide +kernel
theorem dX5_sync_181 : decode cX5_sync 181 = .ok (.iload_n 1, 1) := by decide +kernel
theorem dX5_sync_182 : decode cX5_sync 182 = .ok (.aload_n 0, 1) := by decide +kernel
theorem dX5_sync_183 : decode cX5_sync 183 = .ok (.iload_n 1, 1) := by decide +kernel
theorem dX5_sync_184 : decode cX5_sync 184 = .ok (.invokevirtual 92, 3) := by decide +kernel
theorem dX5_sync_187 : decode cX5_sync 187 = .ok (.ifCond .eq 11, 3) := by decide +kernel
theorem dX5_sync_190 : decode cX5_sync 190 = .ok (.aload_n 0, 1) := by decide +kernel
theorem dX5_sync_191 : decode cX5_sync 191 = .ok (.iload_n 1, 1) := by decide +kernel
theorem dX5_sync_192 : decode cX5_sync 192 = .ok (.invokevirtual 142, 3) := by decide +kernel
theorem dX5_sync_195 : decode cX5_sync 195 = .ok (.goto 4, 3) := by decide +kernel
theorem dX5_sync_198 : decode cX5_sync 198 = .ok (.iconst 0, 1) := by decide +kernel
theorem dX5_sync_199 : decode cX5_sync 199 = .ok (.iastore, 1) := by decide +kernel
theorem dX5_sync_200 : decode cX5_sync 200 = .ok (.iinc 1 1, 3) := by decide +kernel
theorem dX5_sync_203 : decode cX5_sync 203 = .ok (.goto (-127), 3) := by decide +kernel
theorem dX5_sync_206 : decode cX5_sync 206 = .ok (.iconst 0, 1) := by decide +kernel
theorem dX5_sync_207 : decode cX5_sync 207 = .ok (.istore_n 1, 1) := by decide +kernel
theorem dX5_sync_208 : decode cX5_sync 208 = .ok (.iload_n 1, 1) := by decide +kernel
theorem dX5_sync_209 : decode cX5_sync 209 = .ok (.bipush 120, 2) := by decide +kernel
theorem dX5_sync_211 : decode cX5_sync 211 = .ok (.if_icmp .ge 38, 3) := by decide +kernel
theorem dX5_sync_214 : decode cX5_sync 214 = .ok (.aload_n 0, 1) := by decide +kernel
theorem dX5_sync_215 : decode cX5_sync 215 = .ok (.getfield 35, 3) := by decide +kernel
theorem dX5_sync_218 : decode cX5_sync 218 = .ok (.iload_n 1, 1) := by decide +kernel
theorem dX5_sync_219 : decode cX5_sync 219 = .ok (.aload_n 0, 1) := by decide +kernel
theorem dX5_sync_220 : decode cX5_sync 220 = .ok (.getfield 48, 3) := by decide +kernel
theorem dX5_sync_223 : decode cX5_sync 223 = .ok (.iload_n 1, 1) := by decide +kernel
theorem dX5_sync_224 : decode cX5_sync 224 = .ok (.baload, 1) := by decide +kernel
theorem dX5_sync_225 : decode cX5_sync 225 = .ok (.ifCond .eq 16, 3) := by decide +kernel
theorem dX5_sync_228 : decode cX5_sync 228 = .ok (.aload_n 0, 1) := by decide +kernel
theorem dX5_sync_229 : decode cX5_sync 229 = .ok (.getfield 51, 3) := by decide +kernel
theorem dX5_sync_232 : decode cX5_sync 232 = .ok (.iload_n 1, 1) := by decide +kernel
theorem dX5_sync_233 : decode cX5_sync 233 = .ok (.baload, 1) := by decide +kernel
theorem dX5_sync_234 : decode cX5_sync 234 = .ok (.ifCond .ne 7, 3) := by decide +kernel
theorem dX5_sync_237 : decode cX5_sync 237 = .ok (.iconst 1, 1) := by decide +kernel
theorem dX5_sync_238 : decode cX5_sync 238 = .ok (.goto 4, 3) := by decide +kernel
theorem dX5_sync_241 : decode cX5_sync 241 = .ok (.iconst 0, 1) := by decide +kernel
theorem dX5_sync_242 : decode cX5_sync 242 = .ok (.bastore, 1) := by decide +kernel
theorem dX5_sync_243 : decode cX5_sync 243 = .ok (.iinc 1 1, 3) := by decide +kernel
theorem dX5_sync_246 : decode cX5_sync 246 = .ok (.goto (-38), 3) := by decide +kernel
theorem dX5_sync_249 : decode cX5_sync 249 = .ok (.aload_n 0, 1) := by decide +kernel
theorem dX5_sync_250 : decode cX5_sync 250 = .ok (.dup, 1) := by decide +kernel
theorem dX5_sync_251 : decode cX5_sync 251 = .ok (.getfield 7, 3) := by decide +kernel
theorem dX5_sync_254 : decode cX5_sync 254 = .ok (.iconst 1, 1) := by decide +kernel
theorem dX5_sync_255 : decode cX5_sync 255 = .ok (.iadd, 1) := by decide +kernel
theorem dX5_sync_256 : decode cX5_sync 256 = .ok (.putfield 7, 3) := by decide +kernel
theorem dX5_sync_259 : decode cX5_sync 259 = .ok (.aload_n 0, 1) := by decide +kernel
theorem dX5_sync_260 : decode cX5_sync 260 = .ok (.getfield 112, 3) := by decide +kernel
theorem dX5_sync_263 : decode cX5_sync 263 = .ok (.ireturn, 1) := by decide +kernel
def b_X5_sync_23 (rec : Int32 → Mem → Int32 × Mem) (v1 : Int32) (N : Mem) : Int32 × Mem :=
  if 120 ≤ v1 then (v1, N)
  else rec (v1 + 1) (mup N 13 v1.toNatClampNeg 0)
def l_X5_sync_23 : Nat → Int32 → Mem → Int32 × Mem
  | 0, v1, N => (v1, N)
  | n + 1, v1, N => b_X5_sync_23 (l_X5_sync_23 n) v1 N
set_option maxRecDepth 100000 in
set_option maxHeartbeats 4000000 in
theorem kl_X5_sync_23 (q : ZQ) {K : Int32 × Mem → ZR} (hx : ∀ e : Int32 × Mem, PlN e.2 ∧ (0 : Int) ≤ e.1.toInt → Zg (zgM q) mX5_sync 0 0 0 0 (K e) 42 [some (.inr 0), some (.inl e.1)] [] e.2) :
    ∀ (n : Nat) (v1 : Int32) (N : Mem), PlN N ∧ (0 : Int) ≤ v1.toInt → ((120 : Int32).toInt - (v1 : Int32).toInt).toNat < n → Zg (zgM q) mX5_sync 0 0 0 0 (zlet (l_X5_sync_23 n v1 N) K) 23 [some (.inr 0), some (.inl v1)] [] N := by
  intro n
  induction n with
  | zero => intro v1 N hI hm; exact absurd hm (Nat.not_lt_zero _)
  | succ n ih =>
    intro v1 N hI hm
    show Zg _ _ _ _ _ _ (zlet (b_X5_sync_23 (l_X5_sync_23 n) v1 N) K) _ _ _ _
    unfold b_X5_sync_23
    refine zg_iload_n (x := v1) dX5_sync_23 rfl ?_
    refine zg_bipush (v := 120) dX5_sync_24 rfl ?_
    refine zg_icmpz (tgt := 42) dX5_sync_26 rfl rfl (fun c26 => ?_) (fun c26 => ?_)
    · refine zg_st (pc' := 42) (L' := [some (.inr 0), some (.inl v1)]) (S' := []) (M' := N) rfl rfl rfl rfl ?_
      refine zg_drop (L' := [some (.inr 0), some (.inl v1)]) ⟨rfl, rfl, trivial⟩ ?_
      exact hx (v1, N) hI
    · refine zg_st (pc' := 29) (L' := [some (.inr 0), some (.inl v1)]) (S' := []) (M' := N) rfl rfl rfl rfl ?_
      refine zg_aload_n (x := 0) dX5_sync_29 rfl ?_
      refine zg_getf (v := .inr 13) dX5_sync_30 zf_X5_51 rfl rfl rfl ?_
      refine zg_iload_n (x := v1) dX5_sync_33 rfl ?_
      refine zg_iconst (v := 0) dX5_sync_34 rfl ?_
      refine zg_zast (v := 0) dX5_sync_35 rfl (z_lt c26 rfl hI.2) rfl ?_
      refine zg_iinc (v := (v1 + 1)) dX5_sync_36 rfl (by decide) rfl ?_
      refine zg_st (pc' := 39) (L' := [some (.inr 0), some (.inl (v1 + 1))]) (S' := []) (M' := (mup N 13 v1.toNatClampNeg 0)) rfl rfl rfl rfl ?_
      refine zg_goto (tgt := 23) dX5_sync_39 rfl ?_
      refine zg_st (pc' := 23) (L' := [some (.inr 0), some (.inl (v1 + 1))]) (S' := []) (M' := (mup N 13 v1.toNatClampNeg 0)) rfl rfl rfl rfl ?_
      refine zg_drop (L' := [some (.inr 0), some (.inl (v1 + 1))]) ⟨rfl, rfl, trivial⟩ ?_
      exact ih (v1 + 1) (mup N 13 v1.toNatClampNeg 0) ⟨(PlN_up (by decide) hI.1), z_ge0 c26 hI.2⟩ (z_up c26 hm)
def b_X5_sync_44 (rec : Int32 → Mem → Int32 × Mem) (v1 : Int32) (N : Mem) : Int32 × Mem :=
  if 48 ≤ v1 then (v1, N)
  else rec (v1 + 1) (mup (mup N 2 v1.toNatClampNeg (f_X5_now v1 N)) 3 v1.toNatClampNeg (-1))
def l_X5_sync_44 : Nat → Int32 → Mem → Int32 × Mem
  | 0, v1, N => (v1, N)
  | n + 1, v1, N => b_X5_sync_44 (l_X5_sync_44 n) v1 N
set_option maxRecDepth 100000 in
set_option maxHeartbeats 4000000 in
theorem kl_X5_sync_44 (q : ZQ) {K : Int32 × Mem → ZR} (hx : ∀ e : Int32 × Mem, PlN e.2 ∧ (0 : Int) ≤ e.1.toInt → Zg (zgM q) mX5_sync 0 0 0 0 (K e) 74 [some (.inr 0), some (.inl e.1)] [] e.2) :
    ∀ (n : Nat) (v1 : Int32) (N : Mem), PlN N ∧ (0 : Int) ≤ v1.toInt → ((48 : Int32).toInt - (v1 : Int32).toInt).toNat < n → Zg (zgM q) mX5_sync 0 0 0 0 (zlet (l_X5_sync_44 n v1 N) K) 44 [some (.inr 0), some (.inl v1)] [] N := by
  intro n
  induction n with
  | zero => intro v1 N hI hm; exact absurd hm (Nat.not_lt_zero _)
  | succ n ih =>
    intro v1 N hI hm
    show Zg _ _ _ _ _ _ (zlet (b_X5_sync_44 (l_X5_sync_44 n) v1 N) K) _ _ _ _
    unfold b_X5_sync_44
    refine zg_iload_n (x := v1) dX5_sync_44 rfl ?_
    refine zg_bipush (v := 48) dX5_sync_45 rfl ?_
    refine zg_icmpz (tgt := 74) dX5_sync_47 rfl rfl (fun c47 => ?_) (fun c47 => ?_)
    · refine zg_st (pc' := 74) (L' := [some (.inr 0), some (.inl v1)]) (S' := []) (M' := N) rfl rfl rfl rfl ?_
      refine zg_drop (L' := [some (.inr 0), some (.inl v1)]) ⟨rfl, rfl, trivial⟩ ?_
      exact hx (v1, N) hI
    · refine zg_st (pc' := 50) (L' := [some (.inr 0), some (.inl v1)]) (S' := []) (M' := N) rfl rfl rfl rfl ?_
      refine zg_aload_n (x := 0) dX5_sync_50 rfl ?_
      refine zg_getf (v := .inr 2) dX5_sync_51 zf_X5_17 rfl rfl rfl ?_
      refine zg_iload_n (x := v1) dX5_sync_54 rfl ?_
      refine zg_aload_n (x := 0) dX5_sync_55 rfl ?_
      refine zg_iload_n (x := v1) dX5_sync_56 rfl ?_
      refine zg_cV1 (As := [.inl v1]) (S := [.inl v1, .inr 2]) (v := (f_X5_now v1 N)) dX5_sync_57 zk_X5_78 (k_X5_now q v1 N (z_lt c47 rfl hI.2)) rfl rfl ⟨by decide, by decide⟩ ⟨by decide, by decide⟩ rfl (Nat.le_of_ble_eq_true rfl) ?_
      refine zg_st (pc' := 60) (L' := [some (.inr 0), some (.inl v1)]) (S' := [.inl (f_X5_now v1 N), .inl v1, .inr 2]) (M' := N) rfl rfl rfl rfl ?_
      refine zg_iast dX5_sync_60 rfl (z_lt c47 rfl hI.2) ?_
      refine zg_aload_n (x := 0) dX5_sync_61 rfl ?_
      refine zg_getf (v := .inr 3) dX5_sync_62 zf_X5_20 rfl rfl rfl ?_
      refine zg_iload_n (x := v1) dX5_sync_65 rfl ?_
      refine zg_iconst (v := (-1)) dX5_sync_66 rfl ?_
      refine zg_iast dX5_sync_67 rfl (z_lt c47 rfl hI.2) ?_
      refine zg_iinc (v := (v1 + 1)) dX5_sync_68 rfl (by decide) rfl ?_
      refine zg_st (pc' := 71) (L' := [some (.inr 0), some (.inl (v1 + 1))]) (S' := []) (M' := (mup (mup N 2 v1.toNatClampNeg (f_X5_now v1 N)) 3 v1.toNatClampNeg (-1))) rfl rfl rfl rfl ?_
      refine zg_goto (tgt := 44) dX5_sync_71 rfl ?_
      refine zg_st (pc' := 44) (L' := [some (.inr 0), some (.inl (v1 + 1))]) (S' := []) (M' := (mup (mup N 2 v1.toNatClampNeg (f_X5_now v1 N)) 3 v1.toNatClampNeg (-1))) rfl rfl rfl rfl ?_
      refine zg_drop (L' := [some (.inr 0), some (.inl (v1 + 1))]) ⟨rfl, rfl, trivial⟩ ?_
      exact ih (v1 + 1) (mup (mup N 2 v1.toNatClampNeg (f_X5_now v1 N)) 3 v1.toNatClampNeg (-1)) ⟨(PlN_up (by decide) (PlN_up (by decide) hI.1)), z_ge0 c47 hI.2⟩ (z_up c47 hm)
def b_X5_sync_76 (rec : Int32 → Mem → Int32 × Mem) (v1 : Int32) (N : Mem) : Int32 × Mem :=
  if 53 ≤ v1 then (v1, N)
  else if (N 16 v1.toNatClampNeg) = 0 then rec (v1 + 1) N
  else zlet (f_X5_mark (N 4 v1.toNatClampNeg) N) (fun N4 =>
  zlet (f_X5_mark (N4 5 v1.toNatClampNeg) N4) (fun N5 =>
    zlet (f_X5_clean ((mup (mup N5 4 v1.toNatClampNeg (N5 14 v1.toNatClampNeg)) 5 v1.toNatClampNeg ((mup N5 4 v1.toNatClampNeg (N5 14 v1.toNatClampNeg)) 15 v1.toNatClampNeg)) 4 v1.toNatClampNeg) (mup (mup N5 4 v1.toNatClampNeg (N5 14 v1.toNatClampNeg)) 5 v1.toNatClampNeg ((mup N5 4 v1.toNatClampNeg (N5 14 v1.toNatClampNeg)) 15 v1.toNatClampNeg))) (fun N6 =>
      zlet (f_X5_clean (N6 5 v1.toNatClampNeg) N6) (fun N7 =>
        if (f_X5_isThere v1 N7) then if (f_X5_isThere v1 (mup N7 6 v1.toNatClampNeg (N7 0 1))) then rec (v1 + 1) (mup (mup N7 6 v1.toNatClampNeg (N7 0 1)) 7 v1.toNatClampNeg (f_X5_sumOf v1 (mup N7 6 v1.toNatClampNeg (N7 0 1))))
            else rec (v1 + 1) (mup (mup N7 6 v1.toNatClampNeg (N7 0 1)) 7 v1.toNatClampNeg 0)
          else if (f_X5_isThere v1 (mup N7 6 v1.toNatClampNeg 0)) then rec (v1 + 1) (mup (mup N7 6 v1.toNatClampNeg 0) 7 v1.toNatClampNeg (f_X5_sumOf v1 (mup N7 6 v1.toNatClampNeg 0)))
          else rec (v1 + 1) (mup (mup N7 6 v1.toNatClampNeg 0) 7 v1.toNatClampNeg 0)))))
def l_X5_sync_76 : Nat → Int32 → Mem → Int32 × Mem
  | 0, v1, N => (v1, N)
  | n + 1, v1, N => b_X5_sync_76 (l_X5_sync_76 n) v1 N
set_option maxRecDepth 100000 in
set_option maxHeartbeats 4000000 in
theorem kl_X5_sync_76 (q : ZQ) {K : Int32 × Mem → ZR} (hx : ∀ e : Int32 × Mem, PlN e.2 ∧ (0 : Int) ≤ e.1.toInt → Zg (zgM q) mX5_sync 0 0 0 0 (K e) 206 [some (.inr 0), some (.inl e.1)] [] e.2) :
    ∀ (n : Nat) (v1 : Int32) (N : Mem), PlN N ∧ (0 : Int) ≤ v1.toInt → ((53 : Int32).toInt - (v1 : Int32).toInt).toNat < n → Zg (zgM q) mX5_sync 0 0 0 0 (zlet (l_X5_sync_76 n v1 N) K) 76 [some (.inr 0), some (.inl v1)] [] N := by
  intro n
  induction n with
  | zero => intro v1 N hI hm; exact absurd hm (Nat.not_lt_zero _)
  | succ n ih =>
    intro v1 N hI hm
    show Zg _ _ _ _ _ _ (zlet (b_X5_sync_76 (l_X5_sync_76 n) v1 N) K) _ _ _ _
    unfold b_X5_sync_76
    refine zg_iload_n (x := v1) dX5_sync_76 rfl ?_
    refine zg_bipush (v := 53) dX5_sync_77 rfl ?_
    refine zg_icmpz (tgt := 206) dX5_sync_79 rfl rfl (fun c79 => ?_) (fun c79 => ?_)
    · refine zg_st (pc' := 206) (L' := [some (.inr 0), some (.inl v1)]) (S' := []) (M' := N) rfl rfl rfl rfl ?_
      refine zg_drop (L' := [some (.inr 0), some (.inl v1)]) ⟨rfl, rfl, trivial⟩ ?_
      exact hx (v1, N) hI
    · refine zg_st (pc' := 82) (L' := [some (.inr 0), some (.inl v1)]) (S' := []) (M' := N) rfl rfl rfl rfl ?_
      refine zg_aload_n (x := 0) dX5_sync_82 rfl ?_
      refine zg_getf (v := .inr 16) dX5_sync_83 zf_X5_60 rfl rfl rfl ?_
      refine zg_iload_n (x := v1) dX5_sync_86 rfl ?_
      refine zg_zald dX5_sync_87 rfl (z_lt c79 rfl hI.2) ?_
      refine zg_ifz (tgt := 200) dX5_sync_88 rfl rfl (fun c88 => ?_) (fun c88 => ?_)
      · refine zg_st (pc' := 200) (L' := [some (.inr 0), some (.inl v1)]) (S' := []) (M' := N) rfl rfl rfl rfl ?_
        refine zg_iinc (v := (v1 + 1)) dX5_sync_200 rfl (by decide) rfl ?_
        refine zg_st (pc' := 203) (L' := [some (.inr 0), some (.inl (v1 + 1))]) (S' := []) (M' := N) rfl rfl rfl rfl ?_
        refine zg_goto (tgt := 76) dX5_sync_203 rfl ?_
        refine zg_st (pc' := 76) (L' := [some (.inr 0), some (.inl (v1 + 1))]) (S' := []) (M' := N) rfl rfl rfl rfl ?_
        refine zg_drop (L' := [some (.inr 0), some (.inl (v1 + 1))]) ⟨rfl, rfl, trivial⟩ ?_
        exact ih (v1 + 1) N ⟨(by first | with_reducible exact hI.1 | with_reducible exact PlN_up (by decide) (PlN_up (by decide) (sp_cleanE NOE (sp_cleanE NOE (PlN_set (z_lt c79 rfl hI.2) (sp_markE NOE (sp_markE NOE hI.1))))))), z_ge0 c79 hI.2⟩ (z_up c79 hm)
      · refine zg_st (pc' := 91) (L' := [some (.inr 0), some (.inl v1)]) (S' := []) (M' := N) rfl rfl rfl rfl ?_
        refine zg_aload_n (x := 0) dX5_sync_91 rfl ?_
        refine zg_aload_n (x := 0) dX5_sync_92 rfl ?_
        refine zg_getf (v := .inr 4) dX5_sync_93 zf_X5_23 rfl rfl rfl ?_
        refine zg_iload_n (x := v1) dX5_sync_96 rfl ?_
        refine zg_iald dX5_sync_97 rfl (z_lt c79 rfl hI.2) ?_
        refine zg_cVV (As := [.inl (N 4 v1.toNatClampNeg)]) (S := []) dX5_sync_98 zk_X5_136 (k_X5_mark q (N 4 v1.toNatClampNeg) N (hI.1.1.1 _ (z_cl (z_lt c79 rfl hI.2)))) rfl rfl ⟨by decide, by decide⟩ ⟨by decide, by decide⟩ rfl (Nat.le_of_ble_eq_true rfl) (fun N4 e_N4 => ?_)
        try dsimp only
        refine zg_st (pc' := 101) (L' := [some (.inr 0), some (.inl v1)]) (S' := []) (M' := N4) rfl rfl rfl rfl ?_
        refine zg_aload_n (x := 0) dX5_sync_101 rfl ?_
        refine zg_aload_n (x := 0) dX5_sync_102 rfl ?_
        refine zg_getf (v := .inr 5) dX5_sync_103 zf_X5_26 rfl rfl rfl ?_
        refine zg_iload_n (x := v1) dX5_sync_106 rfl ?_
        refine zg_iald dX5_sync_107 rfl (z_lt c79 rfl hI.2) ?_
        refine zg_cVV (As := [.inl (N4 5 v1.toNatClampNeg)]) (S := []) dX5_sync_108 zk_X5_136 (k_X5_mark q (N4 5 v1.toNatClampNeg) N4 ((sp_markE e_N4 hI.1).1.2 _ (z_cl (z_lt c79 rfl hI.2)))) rfl rfl ⟨by decide, by decide⟩ ⟨by decide, by decide⟩ rfl (Nat.le_of_ble_eq_true rfl) (fun N5 e_N5 => ?_)
        try dsimp only
        refine zg_st (pc' := 111) (L' := [some (.inr 0), some (.inl v1)]) (S' := []) (M' := N5) rfl rfl rfl rfl ?_
        refine zg_aload_n (x := 0) dX5_sync_111 rfl ?_
        refine zg_getf (v := .inr 4) dX5_sync_112 zf_X5_23 rfl rfl rfl ?_
        refine zg_iload_n (x := v1) dX5_sync_115 rfl ?_
        refine zg_aload_n (x := 0) dX5_sync_116 rfl ?_
        refine zg_getf (v := .inr 14) dX5_sync_117 zf_X5_54 rfl rfl rfl ?_
        refine zg_iload_n (x := v1) dX5_sync_120 rfl ?_
        refine zg_iald dX5_sync_121 rfl (z_lt c79 rfl hI.2) ?_
        refine zg_iast dX5_sync_122 rfl (z_lt c79 rfl hI.2) ?_
        refine zg_aload_n (x := 0) dX5_sync_123 rfl ?_
        refine zg_getf (v := .inr 5) dX5_sync_124 zf_X5_26 rfl rfl rfl ?_
        refine zg_iload_n (x := v1) dX5_sync_127 rfl ?_
        refine zg_aload_n (x := 0) dX5_sync_128 rfl ?_
        refine zg_getf (v := .inr 15) dX5_sync_129 zf_X5_57 rfl rfl rfl ?_
        refine zg_iload_n (x := v1) dX5_sync_132 rfl ?_
        refine zg_iald dX5_sync_133 rfl (z_lt c79 rfl hI.2) ?_
        refine zg_iast dX5_sync_134 rfl (z_lt c79 rfl hI.2) ?_
        refine zg_aload_n (x := 0) dX5_sync_135 rfl ?_
        refine zg_aload_n (x := 0) dX5_sync_136 rfl ?_
        refine zg_getf (v := .inr 4) dX5_sync_137 zf_X5_23 rfl rfl rfl ?_
        refine zg_iload_n (x := v1) dX5_sync_140 rfl ?_
        refine zg_iald dX5_sync_141 rfl (z_lt c79 rfl hI.2) ?_
        refine zg_cVV (As := [.inl ((mup (mup N5 4 v1.toNatClampNeg (N5 14 v1.toNatClampNeg)) 5 v1.toNatClampNeg ((mup N5 4 v1.toNatClampNeg (N5 14 v1.toNatClampNeg)) 15 v1.toNatClampNeg)) 4 v1.toNatClampNeg)]) (S := []) dX5_sync_142 zk_X5_139 (k_X5_clean q ((mup (mup N5 4 v1.toNatClampNeg (N5 14 v1.toNatClampNeg)) 5 v1.toNatClampNeg ((mup N5 4 v1.toNatClampNeg (N5 14 v1.toNatClampNeg)) 15 v1.toNatClampNeg)) 4 v1.toNatClampNeg) (mup (mup N5 4 v1.toNatClampNeg (N5 14 v1.toNatClampNeg)) 5 v1.toNatClampNeg ((mup N5 4 v1.toNatClampNeg (N5 14 v1.toNatClampNeg)) 15 v1.toNatClampNeg)) ((PlN_set (z_lt c79 rfl hI.2) (sp_markE e_N5 (sp_markE e_N4 hI.1))).1.1 _ (z_cl (z_lt c79 rfl hI.2)))) rfl rfl ⟨by decide, by decide⟩ ⟨by decide, by decide⟩ rfl (Nat.le_of_ble_eq_true rfl) (fun N6 e_N6 => ?_)
        try dsimp only
        refine zg_st (pc' := 145) (L' := [some (.inr 0), some (.inl v1)]) (S' := []) (M' := N6) rfl rfl rfl rfl ?_
        refine zg_aload_n (x := 0) dX5_sync_145 rfl ?_
        refine zg_aload_n (x := 0) dX5_sync_146 rfl ?_
        refine zg_getf (v := .inr 5) dX5_sync_147 zf_X5_26 rfl rfl rfl ?_
        refine zg_iload_n (x := v1) dX5_sync_150 rfl ?_
        refine zg_iald dX5_sync_151 rfl (z_lt c79 rfl hI.2) ?_
        refine zg_cVV (As := [.inl (N6 5 v1.toNatClampNeg)]) (S := []) dX5_sync_152 zk_X5_139 (k_X5_clean q (N6 5 v1.toNatClampNeg) N6 ((sp_cleanE e_N6 (PlN_set (z_lt c79 rfl hI.2) (sp_markE e_N5 (sp_markE e_N4 hI.1)))).1.2 _ (z_cl (z_lt c79 rfl hI.2)))) rfl rfl ⟨by decide, by decide⟩ ⟨by decide, by decide⟩ rfl (Nat.le_of_ble_eq_true rfl) (fun N7 e_N7 => ?_)
        try dsimp only
        refine zg_st (pc' := 155) (L' := [some (.inr 0), some (.inl v1)]) (S' := []) (M' := N7) rfl rfl rfl rfl ?_
        refine zg_aload_n (x := 0) dX5_sync_155 rfl ?_
        refine zg_getf (v := .inr 6) dX5_sync_156 zf_X5_29 rfl rfl rfl ?_
        refine zg_iload_n (x := v1) dX5_sync_159 rfl ?_
        refine zg_aload_n (x := 0) dX5_sync_160 rfl ?_
        refine zg_iload_n (x := v1) dX5_sync_161 rfl ?_
        refine zg_cV1 (As := [.inl v1]) (S := [.inl v1, .inr 6]) (v := bI ((f_X5_isThere v1 N7))) dX5_sync_162 zk_X5_92 (k_X5_isThere q v1 N7 (z_lt c79 rfl hI.2)) rfl rfl ⟨by decide, by decide⟩ ⟨by decide, by decide⟩ rfl (Nat.le_of_ble_eq_true rfl) ?_
        refine zg_st (pc' := 165) (L' := [some (.inr 0), some (.inl v1)]) (S' := [.inl (bI ((f_X5_isThere v1 N7))), .inl v1, .inr 6]) (M' := N7) rfl rfl rfl rfl ?_
        refine zg_ifbe (tgt := 175) dX5_sync_165 rfl (fun c165 => ?_) (fun c165 => ?_)
        · refine zg_st (pc' := 168) (L' := [some (.inr 0), some (.inl v1)]) (S' := [.inl v1, .inr 6]) (M' := N7) rfl rfl rfl rfl ?_
          refine zg_aload_n (x := 0) dX5_sync_168 rfl ?_
          refine zg_getf (v := .inl (N7 0 1)) dX5_sync_169 zf_X5_7 rfl rfl rfl ?_
          refine zg_goto (tgt := 176) dX5_sync_172 rfl ?_
          refine zg_st (pc' := 176) (L' := [some (.inr 0), some (.inl v1)]) (S' := [.inl (N7 0 1), .inl v1, .inr 6]) (M' := N7) rfl rfl rfl rfl ?_
          refine zg_iast dX5_sync_176 rfl (z_lt c79 rfl hI.2) ?_
          refine zg_aload_n (x := 0) dX5_sync_177 rfl ?_
          refine zg_getf (v := .inr 7) dX5_sync_178 zf_X5_32 rfl rfl rfl ?_
          refine zg_iload_n (x := v1) dX5_sync_181 rfl ?_
          refine zg_aload_n (x := 0) dX5_sync_182 rfl ?_
          refine zg_iload_n (x := v1) dX5_sync_183 rfl ?_
          refine zg_cV1 (As := [.inl v1]) (S := [.inl v1, .inr 7]) (v := bI ((f_X5_isThere v1 (mup N7 6 v1.toNatClampNeg (N7 0 1))))) dX5_sync_184 zk_X5_92 (k_X5_isThere q v1 (mup N7 6 v1.toNatClampNeg (N7 0 1)) (z_lt c79 rfl hI.2)) rfl rfl ⟨by decide, by decide⟩ ⟨by decide, by decide⟩ rfl (Nat.le_of_ble_eq_true rfl) ?_
          refine zg_st (pc' := 187) (L' := [some (.inr 0), some (.inl v1)]) (S' := [.inl (bI ((f_X5_isThere v1 (mup N7 6 v1.toNatClampNeg (N7 0 1))))), .inl v1, .inr 7]) (M' := (mup N7 6 v1.toNatClampNeg (N7 0 1))) rfl rfl rfl rfl ?_
          refine zg_ifbe (tgt := 198) dX5_sync_187 rfl (fun c187 => ?_) (fun c187 => ?_)
          · refine zg_st (pc' := 190) (L' := [some (.inr 0), some (.inl v1)]) (S' := [.inl v1, .inr 7]) (M' := (mup N7 6 v1.toNatClampNeg (N7 0 1))) rfl rfl rfl rfl ?_
            refine zg_aload_n (x := 0) dX5_sync_190 rfl ?_
            refine zg_iload_n (x := v1) dX5_sync_191 rfl ?_
            refine zg_cV1 (As := [.inl v1]) (S := [.inl v1, .inr 7]) (v := (f_X5_sumOf v1 (mup N7 6 v1.toNatClampNeg (N7 0 1)))) dX5_sync_192 zk_X5_142 (k_X5_sumOf q v1 (mup N7 6 v1.toNatClampNeg (N7 0 1)) (z_lt c79 rfl hI.2)) rfl rfl ⟨by decide, by decide⟩ ⟨by decide, by decide⟩ rfl (Nat.le_of_ble_eq_true rfl) ?_
            refine zg_st (pc' := 195) (L' := [some (.inr 0), some (.inl v1)]) (S' := [.inl (f_X5_sumOf v1 (mup N7 6 v1.toNatClampNeg (N7 0 1))), .inl v1, .inr 7]) (M' := (mup N7 6 v1.toNatClampNeg (N7 0 1))) rfl rfl rfl rfl ?_
            refine zg_goto (tgt := 199) dX5_sync_195 rfl ?_
            refine zg_st (pc' := 199) (L' := [some (.inr 0), some (.inl v1)]) (S' := [.inl (f_X5_sumOf v1 (mup N7 6 v1.toNatClampNeg (N7 0 1))), .inl v1, .inr 7]) (M' := (mup N7 6 v1.toNatClampNeg (N7 0 1))) rfl rfl rfl rfl ?_
            refine zg_iast dX5_sync_199 rfl (z_lt c79 rfl hI.2) ?_
            refine zg_iinc (v := (v1 + 1)) dX5_sync_200 rfl (by decide) rfl ?_
            refine zg_st (pc' := 203) (L' := [some (.inr 0), some (.inl (v1 + 1))]) (S' := []) (M' := (mup (mup N7 6 v1.toNatClampNeg (N7 0 1)) 7 v1.toNatClampNeg (f_X5_sumOf v1 (mup N7 6 v1.toNatClampNeg (N7 0 1))))) rfl rfl rfl rfl ?_
            refine zg_goto (tgt := 76) dX5_sync_203 rfl ?_
            refine zg_st (pc' := 76) (L' := [some (.inr 0), some (.inl (v1 + 1))]) (S' := []) (M' := (mup (mup N7 6 v1.toNatClampNeg (N7 0 1)) 7 v1.toNatClampNeg (f_X5_sumOf v1 (mup N7 6 v1.toNatClampNeg (N7 0 1))))) rfl rfl rfl rfl ?_
            refine zg_drop (L' := [some (.inr 0), some (.inl (v1 + 1))]) ⟨rfl, rfl, trivial⟩ ?_
            exact ih (v1 + 1) (mup (mup N7 6 v1.toNatClampNeg (N7 0 1)) 7 v1.toNatClampNeg (f_X5_sumOf v1 (mup N7 6 v1.toNatClampNeg (N7 0 1)))) ⟨(by first | with_reducible exact hI.1 | with_reducible exact PlN_up (by decide) (PlN_up (by decide) (sp_cleanE e_N7 (sp_cleanE e_N6 (PlN_set (z_lt c79 rfl hI.2) (sp_markE e_N5 (sp_markE e_N4 hI.1))))))), z_ge0 c79 hI.2⟩ (z_up c79 hm)
          · refine zg_st (pc' := 198) (L' := [some (.inr 0), some (.inl v1)]) (S' := [.inl v1, .inr 7]) (M' := (mup N7 6 v1.toNatClampNeg (N7 0 1))) rfl rfl rfl rfl ?_
            refine zg_iconst (v := 0) dX5_sync_198 rfl ?_
            refine zg_iast dX5_sync_199 rfl (z_lt c79 rfl hI.2) ?_
            refine zg_iinc (v := (v1 + 1)) dX5_sync_200 rfl (by decide) rfl ?_
            refine zg_st (pc' := 203) (L' := [some (.inr 0), some (.inl (v1 + 1))]) (S' := []) (M' := (mup (mup N7 6 v1.toNatClampNeg (N7 0 1)) 7 v1.toNatClampNeg 0)) rfl rfl rfl rfl ?_
            refine zg_goto (tgt := 76) dX5_sync_203 rfl ?_
            refine zg_st (pc' := 76) (L' := [some (.inr 0), some (.inl (v1 + 1))]) (S' := []) (M' := (mup (mup N7 6 v1.toNatClampNeg (N7 0 1)) 7 v1.toNatClampNeg 0)) rfl rfl rfl rfl ?_
            refine zg_drop (L' := [some (.inr 0), some (.inl (v1 + 1))]) ⟨rfl, rfl, trivial⟩ ?_
            exact ih (v1 + 1) (mup (mup N7 6 v1.toNatClampNeg (N7 0 1)) 7 v1.toNatClampNeg 0) ⟨(by first | with_reducible exact hI.1 | with_reducible exact PlN_up (by decide) (PlN_up (by decide) (sp_cleanE e_N7 (sp_cleanE e_N6 (PlN_set (z_lt c79 rfl hI.2) (sp_markE e_N5 (sp_markE e_N4 hI.1))))))), z_ge0 c79 hI.2⟩ (z_up c79 hm)
        · refine zg_st (pc' := 175) (L' := [some (.inr 0), some (.inl v1)]) (S' := [.inl v1, .inr 6]) (M' := N7) rfl rfl rfl rfl ?_
          refine zg_iconst (v := 0) dX5_sync_175 rfl ?_
          refine zg_iast dX5_sync_176 rfl (z_lt c79 rfl hI.2) ?_
          refine zg_aload_n (x := 0) dX5_sync_177 rfl ?_
          refine zg_getf (v := .inr 7) dX5_sync_178 zf_X5_32 rfl rfl rfl ?_
          refine zg_iload_n (x := v1) dX5_sync_181 rfl ?_
          refine zg_aload_n (x := 0) dX5_sync_182 rfl ?_
          refine zg_iload_n (x := v1) dX5_sync_183 rfl ?_
          refine zg_cV1 (As := [.inl v1]) (S := [.inl v1, .inr 7]) (v := bI ((f_X5_isThere v1 (mup N7 6 v1.toNatClampNeg 0)))) dX5_sync_184 zk_X5_92 (k_X5_isThere q v1 (mup N7 6 v1.toNatClampNeg 0) (z_lt c79 rfl hI.2)) rfl rfl ⟨by decide, by decide⟩ ⟨by decide, by decide⟩ rfl (Nat.le_of_ble_eq_true rfl) ?_
          refine zg_st (pc' := 187) (L' := [some (.inr 0), some (.inl v1)]) (S' := [.inl (bI ((f_X5_isThere v1 (mup N7 6 v1.toNatClampNeg 0)))), .inl v1, .inr 7]) (M' := (mup N7 6 v1.toNatClampNeg 0)) rfl rfl rfl rfl ?_
          refine zg_ifbe (tgt := 198) dX5_sync_187 rfl (fun c187 => ?_) (fun c187 => ?_)
          · refine zg_st (pc' := 190) (L' := [some (.inr 0), some (.inl v1)]) (S' := [.inl v1, .inr 7]) (M' := (mup N7 6 v1.toNatClampNeg 0)) rfl rfl rfl rfl ?_
            refine zg_aload_n (x := 0) dX5_sync_190 rfl ?_
            refine zg_iload_n (x := v1) dX5_sync_191 rfl ?_
            refine zg_cV1 (As := [.inl v1]) (S := [.inl v1, .inr 7]) (v := (f_X5_sumOf v1 (mup N7 6 v1.toNatClampNeg 0))) dX5_sync_192 zk_X5_142 (k_X5_sumOf q v1 (mup N7 6 v1.toNatClampNeg 0) (z_lt c79 rfl hI.2)) rfl rfl ⟨by decide, by decide⟩ ⟨by decide, by decide⟩ rfl (Nat.le_of_ble_eq_true rfl) ?_
            refine zg_st (pc' := 195) (L' := [some (.inr 0), some (.inl v1)]) (S' := [.inl (f_X5_sumOf v1 (mup N7 6 v1.toNatClampNeg 0)), .inl v1, .inr 7]) (M' := (mup N7 6 v1.toNatClampNeg 0)) rfl rfl rfl rfl ?_
            refine zg_goto (tgt := 199) dX5_sync_195 rfl ?_
            refine zg_st (pc' := 199) (L' := [some (.inr 0), some (.inl v1)]) (S' := [.inl (f_X5_sumOf v1 (mup N7 6 v1.toNatClampNeg 0)), .inl v1, .inr 7]) (M' := (mup N7 6 v1.toNatClampNeg 0)) rfl rfl rfl rfl ?_
            refine zg_iast dX5_sync_199 rfl (z_lt c79 rfl hI.2) ?_
            refine zg_iinc (v := (v1 + 1)) dX5_sync_200 rfl (by decide) rfl ?_
            refine zg_st (pc' := 203) (L' := [some (.inr 0), some (.inl (v1 + 1))]) (S' := []) (M' := (mup (mup N7 6 v1.toNatClampNeg 0) 7 v1.toNatClampNeg (f_X5_sumOf v1 (mup N7 6 v1.toNatClampNeg 0)))) rfl rfl rfl rfl ?_
            refine zg_goto (tgt := 76) dX5_sync_203 rfl ?_
            refine zg_st (pc' := 76) (L' := [some (.inr 0), some (.inl (v1 + 1))]) (S' := []) (M' := (mup (mup N7 6 v1.toNatClampNeg 0) 7 v1.toNatClampNeg (f_X5_sumOf v1 (mup N7 6 v1.toNatClampNeg 0)))) rfl rfl rfl rfl ?_
            refine zg_drop (L' := [some (.inr 0), some (.inl (v1 + 1))]) ⟨rfl, rfl, trivial⟩ ?_
            exact ih (v1 + 1) (mup (mup N7 6 v1.toNatClampNeg 0) 7 v1.toNatClampNeg (f_X5_sumOf v1 (mup N7 6 v1.toNatClampNeg 0))) ⟨(by first | with_reducible exact hI.1 | with_reducible exact PlN_up (by decide) (PlN_up (by decide) (sp_cleanE e_N7 (sp_cleanE e_N6 (PlN_set (z_lt c79 rfl hI.2) (sp_markE e_N5 (sp_markE e_N4 hI.1))))))), z_ge0 c79 hI.2⟩ (z_up c79 hm)
          · refine zg_st (pc' := 198) (L' := [some (.inr 0), some (.inl v1)]) (S' := [.inl v1, .inr 7]) (M' := (mup N7 6 v1.toNatClampNeg 0)) rfl rfl rfl rfl ?_
            refine zg_iconst (v := 0) dX5_sync_198 rfl ?_
            refine zg_iast dX5_sync_199 rfl (z_lt c79 rfl hI.2) ?_
            refine zg_iinc (v := (v1 + 1)) dX5_sync_200 rfl (by decide) rfl ?_
            refine zg_st (pc' := 203) (L' := [some (.inr 0), some (.inl (v1 + 1))]) (S' := []) (M' := (mup (mup N7 6 v1.toNatClampNeg 0) 7 v1.toNatClampNeg 0)) rfl rfl rfl rfl ?_
            refine zg_goto (tgt := 76) dX5_sync_203 rfl ?_
            refine zg_st (pc' := 76) (L' := [some (.inr 0), some (.inl (v1 + 1))]) (S' := []) (M' := (mup (mup N7 6 v1.toNatClampNeg 0) 7 v1.toNatClampNeg 0)) rfl rfl rfl rfl ?_
            refine zg_drop (L' := [some (.inr 0), some (.inl (v1 + 1))]) ⟨rfl, rfl, trivial⟩ ?_
            exact ih (v1 + 1) (mup (mup N7 6 v1.toNatClampNeg 0) 7 v1.toNatClampNeg 0) ⟨(by first | with_reducible exact hI.1 | with_reducible exact PlN_up (by decide) (PlN_up (by decide) (sp_cleanE e_N7 (sp_cleanE e_N6 (PlN_set (z_lt c79 rfl hI.2) (sp_markE e_N5 (sp_markE e_N4 hI.1))))))), z_ge0 c79 hI.2⟩ (z_up c79 hm)
def b_X5_sync_208 (rec : Int32 → Mem → Int32 × Mem) (v1 : Int32) (N : Mem) : Int32 × Mem :=
  if 120 ≤ v1 then (v1, N)
  else if (N 12 v1.toNatClampNeg) = 0 then rec (v1 + 1) (mup N 8 v1.toNatClampNeg 0)
  else if ¬ (N 13 v1.toNatClampNeg) = 0 then rec (v1 + 1) (mup N 8 v1.toNatClampNeg 0)
  else rec (v1 + 1) (mup N 8 v1.toNatClampNeg 1)
def l_X5_sync_208 : Nat → Int32 → Mem → Int32 × Mem
  | 0, v1, N => (v1, N)
  | n + 1, v1, N => b_X5_sync_208 (l_X5_sync_208 n) v1 N
set_option maxRecDepth 100000 in
set_option maxHeartbeats 4000000 in
theorem kl_X5_sync_208 (q : ZQ) {K : Int32 × Mem → ZR} (hx : ∀ e : Int32 × Mem, PlN e.2 ∧ (0 : Int) ≤ e.1.toInt → Zg (zgM q) mX5_sync 0 0 0 0 (K e) 249 [some (.inr 0), some (.inl e.1)] [] e.2) :
    ∀ (n : Nat) (v1 : Int32) (N : Mem), PlN N ∧ (0 : Int) ≤ v1.toInt → ((120 : Int32).toInt - (v1 : Int32).toInt).toNat < n → Zg (zgM q) mX5_sync 0 0 0 0 (zlet (l_X5_sync_208 n v1 N) K) 208 [some (.inr 0), some (.inl v1)] [] N := by
  intro n
  induction n with
  | zero => intro v1 N hI hm; exact absurd hm (Nat.not_lt_zero _)
  | succ n ih =>
    intro v1 N hI hm
    show Zg _ _ _ _ _ _ (zlet (b_X5_sync_208 (l_X5_sync_208 n) v1 N) K) _ _ _ _
    unfold b_X5_sync_208
    refine zg_iload_n (x := v1) dX5_sync_208 rfl ?_
    refine zg_bipush (v := 120) dX5_sync_209 rfl ?_
    refine zg_icmpz (tgt := 249) dX5_sync_211 rfl rfl (fun c211 => ?_) (fun c211 => ?_)
    · refine zg_st (pc' := 249) (L' := [some (.inr 0), some (.inl v1)]) (S' := []) (M' := N) rfl rfl rfl rfl ?_
      refine zg_drop (L' := [some (.inr 0), some (.inl v1)]) ⟨rfl, rfl, trivial⟩ ?_
      exact hx (v1, N) hI
    · refine zg_st (pc' := 214) (L' := [some (.inr 0), some (.inl v1)]) (S' := []) (M' := N) rfl rfl rfl rfl ?_
      refine zg_aload_n (x := 0) dX5_sync_214 rfl ?_
      refine zg_getf (v := .inr 8) dX5_sync_215 zf_X5_35 rfl rfl rfl ?_
      refine zg_iload_n (x := v1) dX5_sync_218 rfl ?_
      refine zg_aload_n (x := 0) dX5_sync_219 rfl ?_
      refine zg_getf (v := .inr 12) dX5_sync_220 zf_X5_48 rfl rfl rfl ?_
      refine zg_iload_n (x := v1) dX5_sync_223 rfl ?_
      refine zg_zald dX5_sync_224 rfl (z_lt c211 rfl hI.2) ?_
      refine zg_ifz (tgt := 241) dX5_sync_225 rfl rfl (fun c225 => ?_) (fun c225 => ?_)
      · refine zg_st (pc' := 241) (L' := [some (.inr 0), some (.inl v1)]) (S' := [.inl v1, .inr 8]) (M' := N) rfl rfl rfl rfl ?_
        refine zg_iconst (v := 0) dX5_sync_241 rfl ?_
        refine zg_zast (v := 0) dX5_sync_242 rfl (z_lt c211 rfl hI.2) rfl ?_
        refine zg_iinc (v := (v1 + 1)) dX5_sync_243 rfl (by decide) rfl ?_
        refine zg_st (pc' := 246) (L' := [some (.inr 0), some (.inl (v1 + 1))]) (S' := []) (M' := (mup N 8 v1.toNatClampNeg 0)) rfl rfl rfl rfl ?_
        refine zg_goto (tgt := 208) dX5_sync_246 rfl ?_
        refine zg_st (pc' := 208) (L' := [some (.inr 0), some (.inl (v1 + 1))]) (S' := []) (M' := (mup N 8 v1.toNatClampNeg 0)) rfl rfl rfl rfl ?_
        refine zg_drop (L' := [some (.inr 0), some (.inl (v1 + 1))]) ⟨rfl, rfl, trivial⟩ ?_
        exact ih (v1 + 1) (mup N 8 v1.toNatClampNeg 0) ⟨(PlN_up (by decide) hI.1), z_ge0 c211 hI.2⟩ (z_up c211 hm)
      · refine zg_st (pc' := 228) (L' := [some (.inr 0), some (.inl v1)]) (S' := [.inl v1, .inr 8]) (M' := N) rfl rfl rfl rfl ?_
        refine zg_aload_n (x := 0) dX5_sync_228 rfl ?_
        refine zg_getf (v := .inr 13) dX5_sync_229 zf_X5_51 rfl rfl rfl ?_
        refine zg_iload_n (x := v1) dX5_sync_232 rfl ?_
        refine zg_zald dX5_sync_233 rfl (z_lt c211 rfl hI.2) ?_
        refine zg_ifz (tgt := 241) dX5_sync_234 rfl rfl (fun c234 => ?_) (fun c234 => ?_)
        · refine zg_st (pc' := 241) (L' := [some (.inr 0), some (.inl v1)]) (S' := [.inl v1, .inr 8]) (M' := N) rfl rfl rfl rfl ?_
          refine zg_iconst (v := 0) dX5_sync_241 rfl ?_
          refine zg_zast (v := 0) dX5_sync_242 rfl (z_lt c211 rfl hI.2) rfl ?_
          refine zg_iinc (v := (v1 + 1)) dX5_sync_243 rfl (by decide) rfl ?_
          refine zg_st (pc' := 246) (L' := [some (.inr 0), some (.inl (v1 + 1))]) (S' := []) (M' := (mup N 8 v1.toNatClampNeg 0)) rfl rfl rfl rfl ?_
          refine zg_goto (tgt := 208) dX5_sync_246 rfl ?_
          refine zg_st (pc' := 208) (L' := [some (.inr 0), some (.inl (v1 + 1))]) (S' := []) (M' := (mup N 8 v1.toNatClampNeg 0)) rfl rfl rfl rfl ?_
          refine zg_drop (L' := [some (.inr 0), some (.inl (v1 + 1))]) ⟨rfl, rfl, trivial⟩ ?_
          exact ih (v1 + 1) (mup N 8 v1.toNatClampNeg 0) ⟨(PlN_up (by decide) hI.1), z_ge0 c211 hI.2⟩ (z_up c211 hm)
        · refine zg_st (pc' := 237) (L' := [some (.inr 0), some (.inl v1)]) (S' := [.inl v1, .inr 8]) (M' := N) rfl rfl rfl rfl ?_
          refine zg_iconst (v := 1) dX5_sync_237 rfl ?_
          refine zg_goto (tgt := 242) dX5_sync_238 rfl ?_
          refine zg_st (pc' := 242) (L' := [some (.inr 0), some (.inl v1)]) (S' := [.inl 1, .inl v1, .inr 8]) (M' := N) rfl rfl rfl rfl ?_
          refine zg_zast (v := 1) dX5_sync_242 rfl (z_lt c211 rfl hI.2) rfl ?_
          refine zg_iinc (v := (v1 + 1)) dX5_sync_243 rfl (by decide) rfl ?_
          refine zg_st (pc' := 246) (L' := [some (.inr 0), some (.inl (v1 + 1))]) (S' := []) (M' := (mup N 8 v1.toNatClampNeg 1)) rfl rfl rfl rfl ?_
          refine zg_goto (tgt := 208) dX5_sync_246 rfl ?_
          refine zg_st (pc' := 208) (L' := [some (.inr 0), some (.inl (v1 + 1))]) (S' := []) (M' := (mup N 8 v1.toNatClampNeg 1)) rfl rfl rfl rfl ?_
          refine zg_drop (L' := [some (.inr 0), some (.inl (v1 + 1))]) ⟨rfl, rfl, trivial⟩ ?_
          exact ih (v1 + 1) (mup N 8 v1.toNatClampNeg 1) ⟨(PlN_up (by decide) hI.1), z_ge0 c211 hI.2⟩ (z_up c211 hm)
def f_X5_sync (M : Mem) : (Int32 × Mem) :=
  zlet (f_X5_tries M) (fun q1 =>
  if q1.1 then zlet (l_X5_sync_23 121 0 (mup q1.2 0 0 0)) (fun s2 =>
      zlet (l_X5_sync_44 49 0 s2.2) (fun s3 =>
        zlet (l_X5_sync_76 54 0 s3.2) (fun s8 =>
          zlet (l_X5_sync_208 121 0 s8.2) (fun s9 =>
            (((mup s9.2 0 1 ((s9.2 0 1) + 1)) 0 19), (mup s9.2 0 1 ((s9.2 0 1) + 1)))))))
    else (0, (mup q1.2 0 0 1)))
set_option maxRecDepth 100000 in
set_option maxHeartbeats 4000000 in
theorem k_X5_sync (q : ZQ) (M : Mem) (hp : PlM M ∧ PlM (f_X5_tries M).2 ∧ zPl ((f_X5_tries M).2 14) ∧ zPl ((f_X5_tries M).2 15)) : Zc (zgM q) mX5_sync 0 0 [.inr 0] M (wIM (f_X5_sync M)) := by
  refine Zc.of (by decide) zi_X5_sync.1 (Nat.le_of_ble_eq_true rfl) rfl ?_
  show Zg _ _ _ _ _ _ (zlet (f_X5_sync M) wIM) _ _ _ _
  unfold f_X5_sync
  refine zg_aload_n (x := 0) dX5_sync_0 rfl ?_
  refine zg_aload_n (x := 0) dX5_sync_1 rfl ?_
  refine zg_cVBM (As := []) (S := [.inr 0]) dX5_sync_2 zk_X5_132 (k_X5_tries q M) rfl rfl ⟨by decide, by decide⟩ ⟨by decide, by decide⟩ rfl (Nat.le_of_ble_eq_true rfl) (fun q1 e_q1 => ?_)
  try dsimp only
  refine zg_st (pc' := 5) (L' := [some (.inr 0), none]) (S' := [.inl (bI q1.1), .inr 0]) (M' := q1.2) rfl rfl rfl rfl ?_
  refine zg_ifbe (tgt := 12) dX5_sync_5 rfl (fun c5 => ?_) (fun c5 => ?_)
  · refine zg_st (pc' := 8) (L' := [some (.inr 0), none]) (S' := [.inr 0]) (M' := q1.2) rfl rfl rfl rfl ?_
    refine zg_iconst (v := 0) dX5_sync_8 rfl ?_
    refine zg_goto (tgt := 13) dX5_sync_9 rfl ?_
    refine zg_st (pc' := 13) (L' := [some (.inr 0), none]) (S' := [.inl 0, .inr 0]) (M' := q1.2) rfl rfl rfl rfl ?_
    refine zg_cV1 (As := [.inl 0]) (S := []) (v := 0) (N0 := (mup q1.2 0 0 0)) dX5_sync_13 zk_X5_74 (k_X5_refused q 0 q1.2) rfl rfl ⟨by decide, by decide⟩ ⟨by decide, by decide⟩ rfl (Nat.le_of_ble_eq_true rfl) ?_
    refine zg_st (pc' := 16) (L' := [some (.inr 0), none]) (S' := [.inl 0]) (M' := (mup q1.2 0 0 0)) rfl rfl rfl rfl ?_
    refine zg_jt (tgt := 21) dX5_sync_16 rfl (show (0 : Int32) = 0 from by decide) ?_
    refine zg_st (pc' := 21) (L' := [some (.inr 0), none]) (S' := []) (M' := (mup q1.2 0 0 0)) rfl rfl rfl rfl ?_
    refine zg_iconst (v := 0) dX5_sync_21 rfl ?_
    refine zg_istore_n dX5_sync_22 (by decide) ?_
    refine zg_st (pc' := 23) (L' := [some (.inr 0), some (.inl 0)]) (S' := []) (M' := (mup q1.2 0 0 0)) rfl rfl rfl rfl ?_
    refine zg_asc ?_
    refine zg_drop (L' := [some (.inr 0), some (.inl 0)]) ⟨rfl, rfl, trivial⟩ ?_
    refine kl_X5_sync_23 q  (fun s2 hI_s2 => ?_) 121 0 (mup q1.2 0 0 0) ⟨PlN_up (by decide) (by rw [e_q1]; exact ⟨hp.2.1, hp.2.2.1, hp.2.2.2⟩), by decide⟩ (by decide)
    try dsimp only [Sum.elim_inr]
    refine zg_st (pc' := 42) (L' := [some (.inr 0), some (.inl s2.1)]) (S' := []) (M' := s2.2) rfl rfl rfl rfl ?_
    refine zg_iconst (v := 0) dX5_sync_42 rfl ?_
    refine zg_istore_n dX5_sync_43 (by decide) ?_
    refine zg_st (pc' := 44) (L' := [some (.inr 0), some (.inl 0)]) (S' := []) (M' := s2.2) rfl rfl rfl rfl ?_
    refine zg_asc ?_
    refine zg_drop (L' := [some (.inr 0), some (.inl 0)]) ⟨rfl, rfl, trivial⟩ ?_
    refine kl_X5_sync_44 q  (fun s3 hI_s3 => ?_) 49 0 s2.2 ⟨hI_s2.1, by decide⟩ (by decide)
    try dsimp only [Sum.elim_inr]
    refine zg_st (pc' := 74) (L' := [some (.inr 0), some (.inl s3.1)]) (S' := []) (M' := s3.2) rfl rfl rfl rfl ?_
    refine zg_iconst (v := 0) dX5_sync_74 rfl ?_
    refine zg_istore_n dX5_sync_75 (by decide) ?_
    refine zg_st (pc' := 76) (L' := [some (.inr 0), some (.inl 0)]) (S' := []) (M' := s3.2) rfl rfl rfl rfl ?_
    refine zg_asc ?_
    refine zg_drop (L' := [some (.inr 0), some (.inl 0)]) ⟨rfl, rfl, trivial⟩ ?_
    refine kl_X5_sync_76 q  (fun s8 hI_s8 => ?_) 54 0 s3.2 ⟨hI_s3.1, by decide⟩ (by decide)
    try dsimp only [Sum.elim_inr]
    refine zg_st (pc' := 206) (L' := [some (.inr 0), some (.inl s8.1)]) (S' := []) (M' := s8.2) rfl rfl rfl rfl ?_
    refine zg_iconst (v := 0) dX5_sync_206 rfl ?_
    refine zg_istore_n dX5_sync_207 (by decide) ?_
    refine zg_st (pc' := 208) (L' := [some (.inr 0), some (.inl 0)]) (S' := []) (M' := s8.2) rfl rfl rfl rfl ?_
    refine zg_asc ?_
    refine zg_drop (L' := [some (.inr 0), some (.inl 0)]) ⟨rfl, rfl, trivial⟩ ?_
    refine kl_X5_sync_208 q  (fun s9 hI_s9 => ?_) 121 0 s8.2 ⟨hI_s8.1, by decide⟩ (by decide)
    try dsimp only [Sum.elim_inr]
    refine zg_st (pc' := 249) (L' := [some (.inr 0), some (.inl s9.1)]) (S' := []) (M' := s9.2) rfl rfl rfl rfl ?_
    refine zg_aload_n (x := 0) dX5_sync_249 rfl ?_
    refine zg_dup dX5_sync_250 ?_
    refine zg_getf (v := .inl (s9.2 0 1)) dX5_sync_251 zf_X5_7 rfl rfl rfl ?_
    refine zg_iconst (v := 1) dX5_sync_254 rfl ?_
    refine zg_iadd dX5_sync_255 ?_
    refine zg_putf dX5_sync_256 zp_X5_7 rfl rfl ?_
    refine zg_aload_n (x := 0) dX5_sync_259 rfl ?_
    refine zg_getf (v := .inl ((mup s9.2 0 1 ((s9.2 0 1) + 1)) 0 19)) dX5_sync_260 zf_X5_112 rfl rfl rfl ?_
    exact zg_iret dX5_sync_263 rfl rfl ⟨by decide, by decide⟩ rfl
  · refine zg_st (pc' := 12) (L' := [some (.inr 0), none]) (S' := [.inr 0]) (M' := q1.2) rfl rfl rfl rfl ?_
    refine zg_iconst (v := 1) dX5_sync_12 rfl ?_
    refine zg_cV1 (As := [.inl 1]) (S := []) (v := 1) (N0 := (mup q1.2 0 0 1)) dX5_sync_13 zk_X5_74 (k_X5_refused q 1 q1.2) rfl rfl ⟨by decide, by decide⟩ ⟨by decide, by decide⟩ rfl (Nat.le_of_ble_eq_true rfl) ?_
    refine zg_st (pc' := 16) (L' := [some (.inr 0), none]) (S' := [.inl 1]) (M' := (mup q1.2 0 0 1)) rfl rfl rfl rfl ?_
    refine zg_jf (tgt := 21) dX5_sync_16 rfl (show ¬ ((1 : Int32) = 0) from by decide) ?_
    refine zg_st (pc' := 19) (L' := [some (.inr 0), none]) (S' := []) (M' := (mup q1.2 0 0 1)) rfl rfl rfl rfl ?_
    refine zg_iconst (v := 0) dX5_sync_19 rfl ?_
    exact zg_iret dX5_sync_20 rfl rfl ⟨by decide, by decide⟩ rfl
theorem dX5_online_0 : decode cX5_online 0 = .ok (.aload_n 0, 1) := by decide +kernel
theorem dX5_online_1 : decode cX5_online 1 = .ok (.iload_n 1, 1) := by decide +kernel
theorem dX5_online_2 : decode cX5_online 2 = .ok (.iload_n 2, 1) := by decide +kernel
theorem dX5_online_3 : decode cX5_online 3 = .ok (.invokestatic 152, 3) := by decide +kernel
theorem dX5_online_6 : decode cX5_online 6 = .ok (.ifCond .ne 7, 3) := by decide +kernel
theorem dX5_online_9 : decode cX5_online 9 = .ok (.iconst 1, 1) := by decide +kernel
theorem dX5_online_10 : decode cX5_online 10 = .ok (.goto 21, 3) := by decide +kernel
theorem dX5_online_13 : decode cX5_online 13 = .ok (.aload_n 0, 1) := by decide +kernel
theorem dX5_online_14 : decode cX5_online 14 = .ok (.getfield 42, 3) := by decide +kernel
theorem dX5_online_17 : decode cX5_online 17 = .ok (.iconst 2, 1) := by decide +kernel
theorem dX5_online_18 : decode cX5_online 18 = .ok (.iload_n 1, 1) := by decide +kernel
theorem dX5_online_19 : decode cX5_online 19 = .ok (.imul, 1) := by decide +kernel
theorem dX5_online_20 : decode cX5_online 20 = .ok (.iload_n 2, 1) := by decide +kernel
theorem dX5_online_21 : decode cX5_online 21 = .ok (.iadd, 1) := by decide +kernel
theorem dX5_online_22 : decode cX5_online 22 = .ok (.baload, 1) := by decide +kernel
theorem dX5_online_23 : decode cX5_online 23 = .ok (.ifCond .eq 7, 3) := by decide +kernel
theorem dX5_online_26 : decode cX5_online 26 = .ok (.iconst 0, 1) := by decide +kernel
theorem dX5_online_27 : decode cX5_online 27 = .ok (.goto 4, 3) := by decide +kernel
theorem dX5_online_30 : decode cX5_online 30 = .ok (.iconst 2, 1) := by decide +kernel
theorem dX5_online_31 : decode cX5_online 31 = .ok (.invokevirtual 74, 3) := by decide +kernel
theorem dX5_online_34 : decode cX5_online 34 = .ok (.ifCond .eq 5, 3) := by decide +kernel
theorem dX5_online_37 : decode cX5_online 37 = .ok (.iconst 0, 1) := by decide +kernel
theorem dX5_online_38 : decode cX5_online 38 = .ok (.ireturn, 1) := by decide +kernel
theorem dX5_online_39 : decode cX5_online 39 = .ok (.aload_n 0, 1) := by decide +kernel
theorem dX5_online_40 : decode cX5_online 40 = .ok (.getfield 45, 3) := by decide +kernel
theorem dX5_online_43 : decode cX5_online 43 = .ok (.iconst 2, 1) := by decide +kernel
theorem dX5_online_44 : decode cX5_online 44 = .ok (.iload_n 1, 1) := by decide +kernel
theorem dX5_online_45 : decode cX5_online 45 = .ok (.imul, 1) := by decide +kernel
theorem dX5_online_46 : decode cX5_online 46 = .ok (.iload_n 2, 1) := by decide +kernel
theorem dX5_online_47 : decode cX5_online 47 = .ok (.iadd, 1) := by decide +kernel
theorem dX5_online_48 : decode cX5_online 48 = .ok (.iaload, 1) := by decide +kernel
theorem dX5_online_49 : decode cX5_online 49 = .ok (.istore_n 3, 1) := by decide +kernel
theorem dX5_online_50 : decode cX5_online 50 = .ok (.aload_n 0, 1) := by decide +kernel
theorem dX5_online_51 : decode cX5_online 51 = .ok (.getfield 42, 3) := by decide +kernel
theorem dX5_online_54 : decode cX5_online 54 = .ok (.iconst 2, 1) := by decide +kernel
theorem dX5_online_55 : decode cX5_online 55 = .ok (.iload_n 1, 1) := by decide +kernel
theorem dX5_online_56 : decode cX5_online 56 = .ok (.imul, 1) := by decide +kernel
theorem dX5_online_57 : decode cX5_online 57 = .ok (.iload_n 2, 1) := by decide +kernel
theorem dX5_online_58 : decode cX5_online 58 = .ok (.iadd, 1) := by decide +kernel
theorem dX5_online_59 : decode cX5_online 59 = .ok (.iconst 0, 1) := by decide +kernel
theorem dX5_online_60 : decode cX5_online 60 = .ok (.bastore, 1) := by decide +kernel
theorem dX5_online_61 : decode cX5_online 61 = .ok (.aload_n 0, 1) := by decide +kernel
theorem dX5_online_62 : decode cX5_online 62 = .ok (.bipush 52, 2) := by decide +kernel
theorem dX5_online_64 : decode cX5_online 64 = .ok (.iload_n 3, 1) := by decide +kernel
theorem dX5_online_65 : decode cX5_online 65 = .ok (.invokevirtual 159, 3) := by decide +kernel
theorem dX5_online_68 : decode cX5_online 68 = .ok (.ifCond .ne 5, 3) := by decide +kernel
theorem dX5_online_71 : decode cX5_online 71 = .ok (.iconst 0, 1) := by decide +kernel
theorem dX5_online_72 : decode cX5_online 72 = .ok (.ireturn, 1) := by decide +kernel
theorem dX5_online_73 : decode cX5_online 73 = .ok (.aload_n 0, 1) := by decide +kernel
theorem dX5_online_74 : decode cX5_online 74 = .ok (.bipush 52, 2) := by decide +kernel
theorem dX5_online_76 : decode cX5_online 76 = .ok (.iload_n 1, 1) := by decide +kernel
theorem dX5_online_77 : decode cX5_online 77 = .ok (.iload_n 2, 1) := by decide +kernel
theorem dX5_online_78 : decode cX5_online 78 = .ok (.invokevirtual 162, 3) := by decide +kernel
theorem dX5_online_81 : decode cX5_online 81 = .ok (.istore 4, 2) := by decide +kernel
theorem dX5_online_83 : decode cX5_online 83 = .ok (.iconst 0, 1) := by decide +kernel
theorem dX5_online_84 : decode cX5_online 84 = .ok (.istore 5, 2) := by decide +kernel
theorem dX5_online_86 : decode cX5_online 86 = .ok (.iload 5, 2) := by decide +kernel
theorem dX5_online_88 : decode cX5_online 88 = .ok (.iconst 4, 1) := by decide +kernel
theorem dX5_online_89 : decode cX5_online 89 = .ok (.if_icmp .ge 91, 3) := by decide +kernel
theorem dX5_online_92 : decode cX5_online 92 = .ok (.aload_n 0, 1) := by decide +kernel
theorem dX5_online_93 : decode cX5_online 93 = .ok (.bipush 48, 2) := by decide +kernel
theorem dX5_online_95 : decode cX5_online 95 = .ok (.iload 5, 2) := by decide +kernel
theorem dX5_online_97 : decode cX5_online 97 = .ok (.iadd, 1) := by decide +kernel
theorem dX5_online_98 : decode cX5_online 98 = .ok (.iload_n 3, 1) := by decide +kernel
theorem dX5_online_99 : decode cX5_online 99 = .ok (.invokevirtual 159, 3) := by decide +kernel
theorem dX5_online_102 : decode cX5_online 102 = .ok (.ifCond .eq 72, 3) := by decide +kernel
theorem dX5_online_105 : decode cX5_online 105 = .ok (.iload 4, 2) := by decide +kernel
theorem dX5_online_107 : decode cX5_online 107 = .ok (.aload_n 0, 1) := by decide +kernel
theorem dX5_online_108 : decode cX5_online 108 = .ok (.bipush 48, 2) := by decide +kernel
theorem dX5_online_110 : decode cX5_online 110 = .ok (.iload 5, 2) := by decide +kernel
theorem dX5_online_112 : decode cX5_online 112 = .ok (.iadd, 1) := by decide +kernel
theorem dX5_online_113 : decode cX5_online 113 = .ok (.iload_n 1, 1) := by decide +kernel
theorem dX5_online_114 : decode cX5_online 114 = .ok (.iload_n 2, 1) := by decide +kernel
theorem dX5_online_115 : decode cX5_online 115 = .ok (.invokevirtual 162, 3) := by decide +kernel
theorem dX5_online_118 : decode cX5_online 118 = .ok (.iadd, 1) := by decide +kernel
theorem dX5_online_119 : decode cX5_online 119 = .ok (.istore 4, 2) := by decide +kernel
theorem dX5_online_121 : decode cX5_online 121 = .ok (.bipush 12, 2) := by decide +kernel
theorem dX5_online_123 : decode cX5_online 123 = .ok (.iload 5, 2) := by decide +kernel
theorem dX5_online_125 : decode cX5_online 125 = .ok (.imul, 1) := by decide +kernel
theorem dX5_online_126 : decode cX5_online 126 = .ok (.istore 6, 2) := by decide +kernel
theorem dX5_online_128 : decode cX5_online 128 = .ok (.iload 6, 2) := by decide +kernel
theorem dX5_online_130 : decode cX5_online 130 = .ok (.bipush 12, 2) := by decide +kernel
theorem dX5_online_132 : decode cX5_online 132 = .ok (.iload 5, 2) := by decide +kernel
theorem dX5_online_134 : decode cX5_online 134 = .ok (.imul, 1) := by decide +kernel
theorem dX5_online_135 : decode cX5_online 135 = .ok (.bipush 12, 2) := by decide +kernel
theorem dX5_online_137 : decode cX5_online 137 = .ok (.iadd, 1) := by decide +kernel
theorem dX5_online_138 : decode cX5_online 138 = .ok (.if_icmp .ge 36, 3) := by decide +kernel
theorem dX5_online_141 : decode cX5_online 141 = .ok (.iload 4, 2) := by decide +kernel
theorem dX5_online_143 : decode cX5_online 143 = .ok (.aload_n 0, 1) := by decide +kernel
theorem dX5_online_144 : decode cX5_online 144 = .ok (.iload 6, 2) := by decide +kernel
theorem dX5_online_146 : decode cX5_online 146 = .ok (.iload_n 3, 1) := by decide +kernel
theorem dX5_online_147 : decode cX5_online 147 = .ok (.invokevirtual 159, 3) := by decide +kernel
theorem dX5_online_150 : decode cX5_online 150 = .ok (.ifCond .eq 14, 3) := by decide +kernel
theorem dX5_online_153 : decode cX5_online 153 = .ok (.aload_n 0, 1) := by decide +kernel
theorem dX5_online_154 : decode cX5_online 154 = .ok (.iload 6, 2) := by decide +kernel
theorem dX5_online_156 : decode cX5_online 156 = .ok (.iload_n 1, 1) := by decide +kernel
theorem dX5_online_157 : decode cX5_online 157 = .ok (.iload_n 2, 1) := by decide +kernel
theorem dX5_online_158 : decode cX5_online 158 = .ok (.invokevirtual 162, 3) := by decide +kernel
theorem dX5_online_161 : decode cX5_online 161 = .ok (.goto 4, 3) := by decide +kernel
theorem dX5_online_164 : decode cX5_online 164 = .ok (.iconst 0, 1) := by decide +kernel
theorem dX5_online_165 : decode cX5_online 165 = .ok (.iadd, 1) := by decide +kernel
theorem dX5_online_166 : decode cX5_online 166 = .ok (.istore 4, 2) := by decide +kernel
theorem dX5_online_168 : decode cX5_online 168 = .ok (.iinc 6 1, 3) := by decide +kernel
theorem dX5_online_171 : decode cX5_online 171 = .ok (.goto (-43), 3) := by decide +kernel
theorem dX5_online_174 : decode cX5_online 174 = .ok (.iinc 5 1, 3) := by decide +kernel
theorem dX5_online_177 : decode cX5_online 177 = .ok (.goto (-91), 3) := by decide +kernel
theorem dX5_online_180 : decode cX5_online 180 = .ok (.iload 4, 2) := by decide +kernel
theorem dX5_online_182 : decode cX5_online 182 = .ok (.ireturn, 1) := by decide +kernel
def b_X5_online_128 (x1 : Int32) (x2 : Int32) (x3 : Int32) (x5 : Int32) (rec : Int32 → Int32 → Mem → Int32 × Int32 × Mem) (v4 : Int32) (v6 : Int32) (N : Mem) : Int32 × Int32 × Mem :=
  if ((12 * x5) + 12) ≤ v6 then (v4, v6, N)
  else if (f_X5_isBehind v6 x3 N) then zlet (f_X5_copyBoth v6 x1 x2 N) (fun q3 =>
    rec (v4 + q3.1) (v6 + 1) q3.2)
  else rec (v4 + 0) (v6 + 1) N
def l_X5_online_128 (x1 : Int32) (x2 : Int32) (x3 : Int32) (x5 : Int32) : Nat → Int32 → Int32 → Mem → Int32 × Int32 × Mem
  | 0, v4, v6, N => (v4, v6, N)
  | n + 1, v4, v6, N => b_X5_online_128 x1 x2 x3 x5 (l_X5_online_128 x1 x2 x3 x5 n) v4 v6 N
set_option maxRecDepth 100000 in
set_option maxHeartbeats 4000000 in
theorem kl_X5_online_128 (q : ZQ) (x1 : Int32) (x2 : Int32) (x3 : Int32) (x5 : Int32) (hx2 : 0 ≤ x2.toInt ∧ x2.toInt < 2) (hx5 : 0 ≤ x5.toInt ∧ x5.toInt < 4) {K : Int32 × Int32 × Mem → ZR} (hx : ∀ e : Int32 × Int32 × Mem, PlM e.2.2 ∧ (0 : Int) ≤ e.2.1.toInt → Zg (zgM q) mX5_online 0 0 0 0 (K e) 174 [some (.inr 0), some (.inl x1), some (.inl x2), some (.inl x3), some (.inl e.1), some (.inl x5), some (.inl e.2.1)] [] e.2.2) :
    ∀ (n : Nat) (v4 : Int32) (v6 : Int32) (N : Mem), PlM N ∧ (0 : Int) ≤ v6.toInt → ((((12 * x5) + 12) : Int32).toInt - (v6 : Int32).toInt).toNat < n → Zg (zgM q) mX5_online 0 0 0 0 (zlet (l_X5_online_128 x1 x2 x3 x5 n v4 v6 N) K) 128 [some (.inr 0), some (.inl x1), some (.inl x2), some (.inl x3), some (.inl v4), some (.inl x5), some (.inl v6)] [] N := by
  intro n
  induction n with
  | zero => intro v4 v6 N hI hm; exact absurd hm (Nat.not_lt_zero _)
  | succ n ih =>
    intro v4 v6 N hI hm
    show Zg _ _ _ _ _ _ (zlet (b_X5_online_128 x1 x2 x3 x5 (l_X5_online_128 x1 x2 x3 x5 n) v4 v6 N) K) _ _ _ _
    unfold b_X5_online_128
    refine zg_iload (x := v6) dX5_online_128 rfl ?_
    refine zg_bipush (v := 12) dX5_online_130 rfl ?_
    refine zg_iload (x := x5) dX5_online_132 rfl ?_
    refine zg_imul dX5_online_134 ?_
    refine zg_bipush (v := 12) dX5_online_135 rfl ?_
    refine zg_iadd dX5_online_137 ?_
    refine zg_icmpz (tgt := 174) dX5_online_138 rfl rfl (fun c138 => ?_) (fun c138 => ?_)
    · refine zg_st (pc' := 174) (L' := [some (.inr 0), some (.inl x1), some (.inl x2), some (.inl x3), some (.inl v4), some (.inl x5), some (.inl v6)]) (S' := []) (M' := N) rfl rfl rfl rfl ?_
      refine zg_drop (L' := [some (.inr 0), some (.inl x1), some (.inl x2), some (.inl x3), some (.inl v4), some (.inl x5), some (.inl v6)]) ⟨rfl, rfl, rfl, rfl, rfl, rfl, rfl, trivial⟩ ?_
      exact hx (v4, v6, N) hI
    · refine zg_st (pc' := 141) (L' := [some (.inr 0), some (.inl x1), some (.inl x2), some (.inl x3), some (.inl v4), some (.inl x5), some (.inl v6)]) (S' := []) (M' := N) rfl rfl rfl rfl ?_
      refine zg_iload (x := v4) dX5_online_141 rfl ?_
      refine zg_aload_n (x := 0) dX5_online_143 rfl ?_
      refine zg_iload (x := v6) dX5_online_144 rfl ?_
      refine zg_iload_n (x := x3) dX5_online_146 rfl ?_
      refine zg_cV1 (As := [.inl v6, .inl x3]) (S := [.inl v4]) (v := bI ((f_X5_isBehind v6 x3 N))) dX5_online_147 zk_X5_159 (k_X5_isBehind q v6 x3 N (by first | with_reducible exact z_52 | with_reducible exact z_c53a (z_4 c138 hI.2) | with_reducible exact z_48to53 (z_hd c138 hx5 hI.2))) rfl rfl ⟨by decide, by decide⟩ ⟨by decide, by decide⟩ rfl (Nat.le_of_ble_eq_true rfl) ?_
      refine zg_st (pc' := 150) (L' := [some (.inr 0), some (.inl x1), some (.inl x2), some (.inl x3), some (.inl v4), some (.inl x5), some (.inl v6)]) (S' := [.inl (bI ((f_X5_isBehind v6 x3 N))), .inl v4]) (M' := N) rfl rfl rfl rfl ?_
      refine zg_ifbe (tgt := 164) dX5_online_150 rfl (fun c150 => ?_) (fun c150 => ?_)
      · refine zg_st (pc' := 153) (L' := [some (.inr 0), some (.inl x1), some (.inl x2), some (.inl x3), some (.inl v4), some (.inl x5), some (.inl v6)]) (S' := [.inl v4]) (M' := N) rfl rfl rfl rfl ?_
        refine zg_aload_n (x := 0) dX5_online_153 rfl ?_
        refine zg_iload (x := v6) dX5_online_154 rfl ?_
        refine zg_iload_n (x := x1) dX5_online_156 rfl ?_
        refine zg_iload_n (x := x2) dX5_online_157 rfl ?_
        refine zg_cVIM (As := [.inl v6, .inl x1, .inl x2]) (S := [.inl v4]) dX5_online_158 zk_X5_162 (k_X5_copyBoth q v6 x1 x2 N ⟨z_48to53 (z_hd c138 hx5 hI.2), hI.1, hx2⟩) rfl rfl ⟨by decide, by decide⟩ ⟨by decide, by decide⟩ rfl (Nat.le_of_ble_eq_true rfl) (fun q3 e_q3 => ?_)
        try dsimp only
        refine zg_st (pc' := 161) (L' := [some (.inr 0), some (.inl x1), some (.inl x2), some (.inl x3), some (.inl v4), some (.inl x5), some (.inl v6)]) (S' := [.inl q3.1, .inl v4]) (M' := q3.2) rfl rfl rfl rfl ?_
        refine zg_goto (tgt := 165) dX5_online_161 rfl ?_
        refine zg_st (pc' := 165) (L' := [some (.inr 0), some (.inl x1), some (.inl x2), some (.inl x3), some (.inl v4), some (.inl x5), some (.inl v6)]) (S' := [.inl q3.1, .inl v4]) (M' := q3.2) rfl rfl rfl rfl ?_
        refine zg_iadd dX5_online_165 ?_
        refine zg_istore dX5_online_166 (by decide) ?_
        refine zg_st (pc' := 168) (L' := [some (.inr 0), some (.inl x1), some (.inl x2), some (.inl x3), some (.inl (v4 + q3.1)), some (.inl x5), some (.inl v6)]) (S' := []) (M' := q3.2) rfl rfl rfl rfl ?_
        refine zg_iinc (v := (v6 + 1)) dX5_online_168 rfl (by decide) rfl ?_
        refine zg_st (pc' := 171) (L' := [some (.inr 0), some (.inl x1), some (.inl x2), some (.inl x3), some (.inl (v4 + q3.1)), some (.inl x5), some (.inl (v6 + 1))]) (S' := []) (M' := q3.2) rfl rfl rfl rfl ?_
        refine zg_goto (tgt := 128) dX5_online_171 rfl ?_
        refine zg_st (pc' := 128) (L' := [some (.inr 0), some (.inl x1), some (.inl x2), some (.inl x3), some (.inl (v4 + q3.1)), some (.inl x5), some (.inl (v6 + 1))]) (S' := []) (M' := q3.2) rfl rfl rfl rfl ?_
        refine zg_drop (L' := [some (.inr 0), some (.inl x1), some (.inl x2), some (.inl x3), some (.inl (v4 + q3.1)), some (.inl x5), some (.inl (v6 + 1))]) ⟨rfl, rfl, rfl, rfl, rfl, rfl, rfl, trivial⟩ ?_
        exact ih (v4 + q3.1) (v6 + 1) q3.2 ⟨by first | with_reducible exact hI.1 | with_reducible exact sp_copyBothE e_q3 hI.1, z_ge0 c138 hI.2⟩ (z_up c138 hm)
      · refine zg_st (pc' := 164) (L' := [some (.inr 0), some (.inl x1), some (.inl x2), some (.inl x3), some (.inl v4), some (.inl x5), some (.inl v6)]) (S' := [.inl v4]) (M' := N) rfl rfl rfl rfl ?_
        refine zg_iconst (v := 0) dX5_online_164 rfl ?_
        refine zg_iadd dX5_online_165 ?_
        refine zg_istore dX5_online_166 (by decide) ?_
        refine zg_st (pc' := 168) (L' := [some (.inr 0), some (.inl x1), some (.inl x2), some (.inl x3), some (.inl (v4 + 0)), some (.inl x5), some (.inl v6)]) (S' := []) (M' := N) rfl rfl rfl rfl ?_
        refine zg_iinc (v := (v6 + 1)) dX5_online_168 rfl (by decide) rfl ?_
        refine zg_st (pc' := 171) (L' := [some (.inr 0), some (.inl x1), some (.inl x2), some (.inl x3), some (.inl (v4 + 0)), some (.inl x5), some (.inl (v6 + 1))]) (S' := []) (M' := N) rfl rfl rfl rfl ?_
        refine zg_goto (tgt := 128) dX5_online_171 rfl ?_
        refine zg_st (pc' := 128) (L' := [some (.inr 0), some (.inl x1), some (.inl x2), some (.inl x3), some (.inl (v4 + 0)), some (.inl x5), some (.inl (v6 + 1))]) (S' := []) (M' := N) rfl rfl rfl rfl ?_
        refine zg_drop (L' := [some (.inr 0), some (.inl x1), some (.inl x2), some (.inl x3), some (.inl (v4 + 0)), some (.inl x5), some (.inl (v6 + 1))]) ⟨rfl, rfl, rfl, rfl, rfl, rfl, rfl, trivial⟩ ?_
        exact ih (v4 + 0) (v6 + 1) N ⟨by first | with_reducible exact hI.1 | with_reducible exact sp_copyBothE NOE hI.1, z_ge0 c138 hI.2⟩ (z_up c138 hm)
def b_X5_online_86 (x1 : Int32) (x2 : Int32) (x3 : Int32) (rec : Int32 → Int32 → Mem → Int32 × Int32 × Mem) (v4 : Int32) (v5 : Int32) (N : Mem) : Int32 × Int32 × Mem :=
  if 4 ≤ v5 then (v4, v5, N)
  else if (f_X5_isBehind (48 + v5) x3 N) then zlet (f_X5_copyBoth (48 + v5) x1 x2 N) (fun q2 =>
    zlet (l_X5_online_128 x1 x2 x3 v5 (((((12 * v5) + 12) : Int32).toInt - ((12 * v5) : Int32).toInt).toNat + 1) (v4 + q2.1) (12 * v5) q2.2) (fun s4 =>
      rec s4.1 (v5 + 1) s4.2.2))
  else rec v4 (v5 + 1) N
def l_X5_online_86 (x1 : Int32) (x2 : Int32) (x3 : Int32) : Nat → Int32 → Int32 → Mem → Int32 × Int32 × Mem
  | 0, v4, v5, N => (v4, v5, N)
  | n + 1, v4, v5, N => b_X5_online_86 x1 x2 x3 (l_X5_online_86 x1 x2 x3 n) v4 v5 N
set_option maxRecDepth 100000 in
set_option maxHeartbeats 4000000 in
theorem kl_X5_online_86 (q : ZQ) (x1 : Int32) (x2 : Int32) (x3 : Int32) (hx2 : 0 ≤ x2.toInt ∧ x2.toInt < 2) {K : Int32 × Int32 × Mem → ZR} (hx : ∀ e : Int32 × Int32 × Mem, PlM e.2.2 ∧ (0 : Int) ≤ e.2.1.toInt → Zg (zgM q) mX5_online 0 0 0 0 (K e) 180 [some (.inr 0), some (.inl x1), some (.inl x2), some (.inl x3), some (.inl e.1), some (.inl e.2.1), none] [] e.2.2) :
    ∀ (n : Nat) (v4 : Int32) (v5 : Int32) (N : Mem), PlM N ∧ (0 : Int) ≤ v5.toInt → ((4 : Int32).toInt - (v5 : Int32).toInt).toNat < n → Zg (zgM q) mX5_online 0 0 0 0 (zlet (l_X5_online_86 x1 x2 x3 n v4 v5 N) K) 86 [some (.inr 0), some (.inl x1), some (.inl x2), some (.inl x3), some (.inl v4), some (.inl v5), none] [] N := by
  intro n
  induction n with
  | zero => intro v4 v5 N hI hm; exact absurd hm (Nat.not_lt_zero _)
  | succ n ih =>
    intro v4 v5 N hI hm
    show Zg _ _ _ _ _ _ (zlet (b_X5_online_86 x1 x2 x3 (l_X5_online_86 x1 x2 x3 n) v4 v5 N) K) _ _ _ _
    unfold b_X5_online_86
    refine zg_iload (x := v5) dX5_online_86 rfl ?_
    refine zg_iconst (v := 4) dX5_online_88 rfl ?_
    refine zg_icmpz (tgt := 180) dX5_online_89 rfl rfl (fun c89 => ?_) (fun c89 => ?_)
    · refine zg_st (pc' := 180) (L' := [some (.inr 0), some (.inl x1), some (.inl x2), some (.inl x3), some (.inl v4), some (.inl v5), none]) (S' := []) (M' := N) rfl rfl rfl rfl ?_
      refine zg_drop (L' := [some (.inr 0), some (.inl x1), some (.inl x2), some (.inl x3), some (.inl v4), some (.inl v5), none]) ⟨rfl, rfl, rfl, rfl, rfl, rfl, trivial⟩ ?_
      exact hx (v4, v5, N) hI
    · refine zg_st (pc' := 92) (L' := [some (.inr 0), some (.inl x1), some (.inl x2), some (.inl x3), some (.inl v4), some (.inl v5), none]) (S' := []) (M' := N) rfl rfl rfl rfl ?_
      refine zg_aload_n (x := 0) dX5_online_92 rfl ?_
      refine zg_bipush (v := 48) dX5_online_93 rfl ?_
      refine zg_iload (x := v5) dX5_online_95 rfl ?_
      refine zg_iadd dX5_online_97 ?_
      refine zg_iload_n (x := x3) dX5_online_98 rfl ?_
      refine zg_cV1 (As := [.inl (48 + v5), .inl x3]) (S := []) (v := bI ((f_X5_isBehind (48 + v5) x3 N))) dX5_online_99 zk_X5_159 (k_X5_isBehind q (48 + v5) x3 N (by first | with_reducible exact z_52 | with_reducible exact z_c53a (z_4 c89 hI.2) | with_reducible exact z_48to53 (z_hd c89 hx5 hI.2))) rfl rfl ⟨by decide, by decide⟩ ⟨by decide, by decide⟩ rfl (Nat.le_of_ble_eq_true rfl) ?_
      refine zg_st (pc' := 102) (L' := [some (.inr 0), some (.inl x1), some (.inl x2), some (.inl x3), some (.inl v4), some (.inl v5), none]) (S' := [.inl (bI ((f_X5_isBehind (48 + v5) x3 N)))]) (M' := N) rfl rfl rfl rfl ?_
      refine zg_ifbe (tgt := 174) dX5_online_102 rfl (fun c102 => ?_) (fun c102 => ?_)
      · refine zg_st (pc' := 105) (L' := [some (.inr 0), some (.inl x1), some (.inl x2), some (.inl x3), some (.inl v4), some (.inl v5), none]) (S' := []) (M' := N) rfl rfl rfl rfl ?_
        refine zg_iload (x := v4) dX5_online_105 rfl ?_
        refine zg_aload_n (x := 0) dX5_online_107 rfl ?_
        refine zg_bipush (v := 48) dX5_online_108 rfl ?_
        refine zg_iload (x := v5) dX5_online_110 rfl ?_
        refine zg_iadd dX5_online_112 ?_
        refine zg_iload_n (x := x1) dX5_online_113 rfl ?_
        refine zg_iload_n (x := x2) dX5_online_114 rfl ?_
        refine zg_cVIM (As := [.inl (48 + v5), .inl x1, .inl x2]) (S := [.inl v4]) dX5_online_115 zk_X5_162 (k_X5_copyBoth q (48 + v5) x1 x2 N ⟨z_c53a (z_4 c89 hI.2), hI.1, hx2⟩) rfl rfl ⟨by decide, by decide⟩ ⟨by decide, by decide⟩ rfl (Nat.le_of_ble_eq_true rfl) (fun q2 e_q2 => ?_)
        try dsimp only
        refine zg_st (pc' := 118) (L' := [some (.inr 0), some (.inl x1), some (.inl x2), some (.inl x3), some (.inl v4), some (.inl v5), none]) (S' := [.inl q2.1, .inl v4]) (M' := q2.2) rfl rfl rfl rfl ?_
        refine zg_iadd dX5_online_118 ?_
        refine zg_istore dX5_online_119 (by decide) ?_
        refine zg_st (pc' := 121) (L' := [some (.inr 0), some (.inl x1), some (.inl x2), some (.inl x3), some (.inl (v4 + q2.1)), some (.inl v5), none]) (S' := []) (M' := q2.2) rfl rfl rfl rfl ?_
        refine zg_bipush (v := 12) dX5_online_121 rfl ?_
        refine zg_iload (x := v5) dX5_online_123 rfl ?_
        refine zg_imul dX5_online_125 ?_
        refine zg_istore dX5_online_126 (by decide) ?_
        refine zg_st (pc' := 128) (L' := [some (.inr 0), some (.inl x1), some (.inl x2), some (.inl x3), some (.inl (v4 + q2.1)), some (.inl v5), some (.inl (12 * v5))]) (S' := []) (M' := q2.2) rfl rfl rfl rfl ?_
        refine zg_asc ?_
        refine zg_drop (L' := [some (.inr 0), some (.inl x1), some (.inl x2), some (.inl x3), some (.inl (v4 + q2.1)), some (.inl v5), some (.inl (12 * v5))]) ⟨rfl, rfl, rfl, rfl, rfl, rfl, rfl, trivial⟩ ?_
        refine kl_X5_online_128 q x1 x2 x3 v5  hx2 (z_4 c89 hI.2) (fun s4 hI_s4 => ?_) (((((12 * v5) + 12) : Int32).toInt - ((12 * v5) : Int32).toInt).toNat + 1) (v4 + q2.1) (12 * v5) q2.2 ⟨sp_copyBothE e_q2 hI.1, by rw [z12' (z_4 c89 hI.2)]; have := hI.2; omega⟩ (Nat.lt_succ_self _)
        try dsimp only [Sum.elim_inr]
        refine zg_st (pc' := 174) (L' := [some (.inr 0), some (.inl x1), some (.inl x2), some (.inl x3), some (.inl s4.1), some (.inl v5), some (.inl s4.2.1)]) (S' := []) (M' := s4.2.2) rfl rfl rfl rfl ?_
        refine zg_iinc (v := (v5 + 1)) dX5_online_174 rfl (by decide) rfl ?_
        refine zg_st (pc' := 177) (L' := [some (.inr 0), some (.inl x1), some (.inl x2), some (.inl x3), some (.inl s4.1), some (.inl (v5 + 1)), some (.inl s4.2.1)]) (S' := []) (M' := s4.2.2) rfl rfl rfl rfl ?_
        refine zg_goto (tgt := 86) dX5_online_177 rfl ?_
        refine zg_st (pc' := 86) (L' := [some (.inr 0), some (.inl x1), some (.inl x2), some (.inl x3), some (.inl s4.1), some (.inl (v5 + 1)), some (.inl s4.2.1)]) (S' := []) (M' := s4.2.2) rfl rfl rfl rfl ?_
        refine zg_drop (L' := [some (.inr 0), some (.inl x1), some (.inl x2), some (.inl x3), some (.inl s4.1), some (.inl (v5 + 1)), none]) ⟨rfl, rfl, rfl, rfl, rfl, rfl, trivial⟩ ?_
        exact ih s4.1 (v5 + 1) s4.2.2 ⟨by first | with_reducible exact hI_s4.1 | with_reducible exact hI.1, z_ge0 c89 hI.2⟩ (z_up c89 hm)
      · refine zg_st (pc' := 174) (L' := [some (.inr 0), some (.inl x1), some (.inl x2), some (.inl x3), some (.inl v4), some (.inl v5), none]) (S' := []) (M' := N) rfl rfl rfl rfl ?_
        refine zg_iinc (v := (v5 + 1)) dX5_online_174 rfl (by decide) rfl ?_
        refine zg_st (pc' := 177) (L' := [some (.inr 0), some (.inl x1), some (.inl x2), some (.inl x3), some (.inl v4), some (.inl (v5 + 1)), none]) (S' := []) (M' := N) rfl rfl rfl rfl ?_
        refine zg_goto (tgt := 86) dX5_online_177 rfl ?_
        refine zg_st (pc' := 86) (L' := [some (.inr 0), some (.inl x1), some (.inl x2), some (.inl x3), some (.inl v4), some (.inl (v5 + 1)), none]) (S' := []) (M' := N) rfl rfl rfl rfl ?_
        refine zg_drop (L' := [some (.inr 0), some (.inl x1), some (.inl x2), some (.inl x3), some (.inl v4), some (.inl (v5 + 1)), none]) ⟨rfl, rfl, rfl, rfl, rfl, rfl, trivial⟩ ?_
        exact ih v4 (v5 + 1) N ⟨by first | with_reducible exact NOS.1 | with_reducible exact hI.1, z_ge0 c89 hI.2⟩ (z_up c89 hm)
def f_X5_online (p1 : Int32) (p2 : Int32) (M : Mem) : (Int32 × Mem) :=
  if (f_X5_isSide p1 p2) then if (M 10 ((2 * p1) + p2).toNatClampNeg) = 0 then (0, (mup M 0 0 2))
    else if (f_X5_isBehind 52 ((mup M 0 0 0) 11 ((2 * p1) + p2).toNatClampNeg) (mup (mup M 0 0 0) 10 ((2 * p1) + p2).toNatClampNeg 0)) then zlet (f_X5_copyBoth 52 p1 p2 (mup (mup M 0 0 0) 10 ((2 * p1) + p2).toNatClampNeg 0)) (fun q1 =>
      zlet (l_X5_online_86 p1 p2 ((mup M 0 0 0) 11 ((2 * p1) + p2).toNatClampNeg) 5 q1.1 0 q1.2) (fun s5 =>
        (s5.1, s5.2.2)))
    else (0, (mup (mup M 0 0 0) 10 ((2 * p1) + p2).toNatClampNeg 0))
  else (0, (mup M 0 0 1))
set_option maxRecDepth 100000 in
set_option maxHeartbeats 4000000 in
theorem k_X5_online (q : ZQ) (p1 : Int32) (p2 : Int32) (M : Mem) (hp : PlM M) : Zc (zgM q) mX5_online 0 0 [.inr 0, .inl p1, .inl p2] M (wIM (f_X5_online p1 p2 M)) := by
  refine Zc.of (by decide) zi_X5_online.1 (Nat.le_of_ble_eq_true rfl) rfl ?_
  show Zg _ _ _ _ _ _ (zlet (f_X5_online p1 p2 M) wIM) _ _ _ _
  unfold f_X5_online
  refine zg_aload_n (x := 0) dX5_online_0 rfl ?_
  refine zg_iload_n (x := p1) dX5_online_1 rfl ?_
  refine zg_iload_n (x := p2) dX5_online_2 rfl ?_
  refine zg_cS1 (As := [.inl p1, .inl p2]) (S := [.inr 0]) (v := bI ((f_X5_isSide p1 p2))) dX5_online_3 zk_X5_152 (k_X5_isSide q p1 p2 M) rfl ⟨by decide, by decide⟩ ⟨by decide, by decide⟩ rfl (Nat.le_of_ble_eq_true rfl) ?_
  refine zg_st (pc' := 6) (L' := [some (.inr 0), some (.inl p1), some (.inl p2), none, none, none, none]) (S' := [.inl (bI ((f_X5_isSide p1 p2))), .inr 0]) (M' := M) rfl rfl rfl rfl ?_
  refine zg_ifbn (tgt := 13) dX5_online_6 rfl (fun c6 => ?_) (fun c6 => ?_)
  · refine zg_st (pc' := 13) (L' := [some (.inr 0), some (.inl p1), some (.inl p2), none, none, none, none]) (S' := [.inr 0]) (M' := M) rfl rfl rfl rfl ?_
    refine zg_aload_n (x := 0) dX5_online_13 rfl ?_
    refine zg_getf (v := .inr 10) dX5_online_14 zf_X5_42 rfl rfl rfl ?_
    refine zg_iconst (v := 2) dX5_online_17 rfl ?_
    refine zg_iload_n (x := p1) dX5_online_18 rfl ?_
    refine zg_imul dX5_online_19 ?_
    refine zg_iload_n (x := p2) dX5_online_20 rfl ?_
    refine zg_iadd dX5_online_21 ?_
    refine zg_zald dX5_online_22 rfl (by first | with_reducible exact z_s6 c6 | with_reducible exact z_s6a c6 | with_reducible exact z_s6b c6) ?_
    refine zg_ifz (tgt := 30) dX5_online_23 rfl rfl (fun c23 => ?_) (fun c23 => ?_)
    · refine zg_st (pc' := 30) (L' := [some (.inr 0), some (.inl p1), some (.inl p2), none, none, none, none]) (S' := [.inr 0]) (M' := M) rfl rfl rfl rfl ?_
      refine zg_iconst (v := 2) dX5_online_30 rfl ?_
      refine zg_cV1 (As := [.inl 2]) (S := []) (v := 1) (N0 := (mup M 0 0 2)) dX5_online_31 zk_X5_74 (k_X5_refused q 2 M) rfl rfl ⟨by decide, by decide⟩ ⟨by decide, by decide⟩ rfl (Nat.le_of_ble_eq_true rfl) ?_
      refine zg_st (pc' := 34) (L' := [some (.inr 0), some (.inl p1), some (.inl p2), none, none, none, none]) (S' := [.inl 1]) (M' := (mup M 0 0 2)) rfl rfl rfl rfl ?_
      refine zg_jf (tgt := 39) dX5_online_34 rfl (show ¬ ((1 : Int32) = 0) from by decide) ?_
      refine zg_st (pc' := 37) (L' := [some (.inr 0), some (.inl p1), some (.inl p2), none, none, none, none]) (S' := []) (M' := (mup M 0 0 2)) rfl rfl rfl rfl ?_
      refine zg_iconst (v := 0) dX5_online_37 rfl ?_
      exact zg_iret dX5_online_38 rfl rfl ⟨by decide, by decide⟩ rfl
    · refine zg_st (pc' := 26) (L' := [some (.inr 0), some (.inl p1), some (.inl p2), none, none, none, none]) (S' := [.inr 0]) (M' := M) rfl rfl rfl rfl ?_
      refine zg_iconst (v := 0) dX5_online_26 rfl ?_
      refine zg_goto (tgt := 31) dX5_online_27 rfl ?_
      refine zg_st (pc' := 31) (L' := [some (.inr 0), some (.inl p1), some (.inl p2), none, none, none, none]) (S' := [.inl 0, .inr 0]) (M' := M) rfl rfl rfl rfl ?_
      refine zg_cV1 (As := [.inl 0]) (S := []) (v := 0) (N0 := (mup M 0 0 0)) dX5_online_31 zk_X5_74 (k_X5_refused q 0 M) rfl rfl ⟨by decide, by decide⟩ ⟨by decide, by decide⟩ rfl (Nat.le_of_ble_eq_true rfl) ?_
      refine zg_st (pc' := 34) (L' := [some (.inr 0), some (.inl p1), some (.inl p2), none, none, none, none]) (S' := [.inl 0]) (M' := (mup M 0 0 0)) rfl rfl rfl rfl ?_
      refine zg_jt (tgt := 39) dX5_online_34 rfl (show (0 : Int32) = 0 from by decide) ?_
      refine zg_st (pc' := 39) (L' := [some (.inr 0), some (.inl p1), some (.inl p2), none, none, none, none]) (S' := []) (M' := (mup M 0 0 0)) rfl rfl rfl rfl ?_
      refine zg_aload_n (x := 0) dX5_online_39 rfl ?_
      refine zg_getf (v := .inr 11) dX5_online_40 zf_X5_45 rfl rfl rfl ?_
      refine zg_iconst (v := 2) dX5_online_43 rfl ?_
      refine zg_iload_n (x := p1) dX5_online_44 rfl ?_
      refine zg_imul dX5_online_45 ?_
      refine zg_iload_n (x := p2) dX5_online_46 rfl ?_
      refine zg_iadd dX5_online_47 ?_
      refine zg_iald dX5_online_48 rfl (by first | with_reducible exact z_s6 c6 | with_reducible exact z_s6a c6 | with_reducible exact z_s6b c6) ?_
      refine zg_istore_n dX5_online_49 (by decide) ?_
      refine zg_st (pc' := 50) (L' := [some (.inr 0), some (.inl p1), some (.inl p2), some (.inl ((mup M 0 0 0) 11 ((2 * p1) + p2).toNatClampNeg)), none, none, none]) (S' := []) (M' := (mup M 0 0 0)) rfl rfl rfl rfl ?_
      refine zg_aload_n (x := 0) dX5_online_50 rfl ?_
      refine zg_getf (v := .inr 10) dX5_online_51 zf_X5_42 rfl rfl rfl ?_
      refine zg_iconst (v := 2) dX5_online_54 rfl ?_
      refine zg_iload_n (x := p1) dX5_online_55 rfl ?_
      refine zg_imul dX5_online_56 ?_
      refine zg_iload_n (x := p2) dX5_online_57 rfl ?_
      refine zg_iadd dX5_online_58 ?_
      refine zg_iconst (v := 0) dX5_online_59 rfl ?_
      refine zg_zast (v := 0) dX5_online_60 rfl (by first | with_reducible exact z_s6 c6 | with_reducible exact z_s6a c6 | with_reducible exact z_s6b c6) rfl ?_
      refine zg_aload_n (x := 0) dX5_online_61 rfl ?_
      refine zg_bipush (v := 52) dX5_online_62 rfl ?_
      refine zg_iload_n (x := ((mup M 0 0 0) 11 ((2 * p1) + p2).toNatClampNeg)) dX5_online_64 rfl ?_
      refine zg_cV1 (As := [.inl 52, .inl ((mup M 0 0 0) 11 ((2 * p1) + p2).toNatClampNeg)]) (S := []) (v := bI ((f_X5_isBehind 52 ((mup M 0 0 0) 11 ((2 * p1) + p2).toNatClampNeg) (mup (mup M 0 0 0) 10 ((2 * p1) + p2).toNatClampNeg 0)))) dX5_online_65 zk_X5_159 (k_X5_isBehind q 52 ((mup M 0 0 0) 11 ((2 * p1) + p2).toNatClampNeg) (mup (mup M 0 0 0) 10 ((2 * p1) + p2).toNatClampNeg 0) (by first | with_reducible exact z_52 | with_reducible exact z_c53a (z_4 @c hI.2) | with_reducible exact z_48to53 (z_hd @c hx5 hI.2))) rfl rfl ⟨by decide, by decide⟩ ⟨by decide, by decide⟩ rfl (Nat.le_of_ble_eq_true rfl) ?_
      refine zg_st (pc' := 68) (L' := [some (.inr 0), some (.inl p1), some (.inl p2), some (.inl ((mup M 0 0 0) 11 ((2 * p1) + p2).toNatClampNeg)), none, none, none]) (S' := [.inl (bI ((f_X5_isBehind 52 ((mup M 0 0 0) 11 ((2 * p1) + p2).toNatClampNeg) (mup (mup M 0 0 0) 10 ((2 * p1) + p2).toNatClampNeg 0))))]) (M' := (mup (mup M 0 0 0) 10 ((2 * p1) + p2).toNatClampNeg 0)) rfl rfl rfl rfl ?_
      refine zg_ifbn (tgt := 73) dX5_online_68 rfl (fun c68 => ?_) (fun c68 => ?_)
      · refine zg_st (pc' := 73) (L' := [some (.inr 0), some (.inl p1), some (.inl p2), some (.inl ((mup M 0 0 0) 11 ((2 * p1) + p2).toNatClampNeg)), none, none, none]) (S' := []) (M' := (mup (mup M 0 0 0) 10 ((2 * p1) + p2).toNatClampNeg 0)) rfl rfl rfl rfl ?_
        refine zg_aload_n (x := 0) dX5_online_73 rfl ?_
        refine zg_bipush (v := 52) dX5_online_74 rfl ?_
        refine zg_iload_n (x := p1) dX5_online_76 rfl ?_
        refine zg_iload_n (x := p2) dX5_online_77 rfl ?_
        refine zg_cVIM (As := [.inl 52, .inl p1, .inl p2]) (S := []) dX5_online_78 zk_X5_162 (k_X5_copyBoth q 52 p1 p2 (mup (mup M 0 0 0) 10 ((2 * p1) + p2).toNatClampNeg 0) ⟨z_52, (PlM_up (by decide) (by decide) (PlM_up (by decide) (by decide) hp)), (q_isSide.mp c6).2⟩) rfl rfl ⟨by decide, by decide⟩ ⟨by decide, by decide⟩ rfl (Nat.le_of_ble_eq_true rfl) (fun q1 e_q1 => ?_)
        try dsimp only
        refine zg_st (pc' := 81) (L' := [some (.inr 0), some (.inl p1), some (.inl p2), some (.inl ((mup M 0 0 0) 11 ((2 * p1) + p2).toNatClampNeg)), none, none, none]) (S' := [.inl q1.1]) (M' := q1.2) rfl rfl rfl rfl ?_
        refine zg_istore dX5_online_81 (by decide) ?_
        refine zg_st (pc' := 83) (L' := [some (.inr 0), some (.inl p1), some (.inl p2), some (.inl ((mup M 0 0 0) 11 ((2 * p1) + p2).toNatClampNeg)), some (.inl q1.1), none, none]) (S' := []) (M' := q1.2) rfl rfl rfl rfl ?_
        refine zg_iconst (v := 0) dX5_online_83 rfl ?_
        refine zg_istore dX5_online_84 (by decide) ?_
        refine zg_st (pc' := 86) (L' := [some (.inr 0), some (.inl p1), some (.inl p2), some (.inl ((mup M 0 0 0) 11 ((2 * p1) + p2).toNatClampNeg)), some (.inl q1.1), some (.inl 0), none]) (S' := []) (M' := q1.2) rfl rfl rfl rfl ?_
        refine zg_asc ?_
        refine zg_drop (L' := [some (.inr 0), some (.inl p1), some (.inl p2), some (.inl ((mup M 0 0 0) 11 ((2 * p1) + p2).toNatClampNeg)), some (.inl q1.1), some (.inl 0), none]) ⟨rfl, rfl, rfl, rfl, rfl, rfl, trivial⟩ ?_
        refine kl_X5_online_86 q p1 p2 ((mup M 0 0 0) 11 ((2 * p1) + p2).toNatClampNeg)  (q_isSide.mp c6).2 (fun s5 hI_s5 => ?_) 5 q1.1 0 q1.2 ⟨sp_copyBothE e_q1 (PlM_up (by decide) (by decide) (PlM_up (by decide) (by decide) hp)), by decide⟩ (by decide)
        try dsimp only [Sum.elim_inr]
        refine zg_st (pc' := 180) (L' := [some (.inr 0), some (.inl p1), some (.inl p2), some (.inl ((mup M 0 0 0) 11 ((2 * p1) + p2).toNatClampNeg)), some (.inl s5.1), some (.inl s5.2.1), none]) (S' := []) (M' := s5.2.2) rfl rfl rfl rfl ?_
        refine zg_iload (x := s5.1) dX5_online_180 rfl ?_
        exact zg_iret dX5_online_182 rfl rfl ⟨by decide, by decide⟩ rfl
      · refine zg_st (pc' := 71) (L' := [some (.inr 0), some (.inl p1), some (.inl p2), some (.inl ((mup M 0 0 0) 11 ((2 * p1) + p2).toNatClampNeg)), none, none, none]) (S' := []) (M' := (mup (mup M 0 0 0) 10 ((2 * p1) + p2).toNatClampNeg 0)) rfl rfl rfl rfl ?_
        refine zg_iconst (v := 0) dX5_online_71 rfl ?_
        exact zg_iret dX5_online_72 rfl rfl ⟨by decide, by decide⟩ rfl
  · refine zg_st (pc' := 9) (L' := [some (.inr 0), some (.inl p1), some (.inl p2), none, none, none, none]) (S' := [.inr 0]) (M' := M) rfl rfl rfl rfl ?_
    refine zg_iconst (v := 1) dX5_online_9 rfl ?_
    refine zg_goto (tgt := 31) dX5_online_10 rfl ?_
    refine zg_st (pc' := 31) (L' := [some (.inr 0), some (.inl p1), some (.inl p2), none, none, none, none]) (S' := [.inl 1, .inr 0]) (M' := M) rfl rfl rfl rfl ?_
    refine zg_cV1 (As := [.inl 1]) (S := []) (v := 1) (N0 := (mup M 0 0 1)) dX5_online_31 zk_X5_74 (k_X5_refused q 1 M) rfl rfl ⟨by decide, by decide⟩ ⟨by decide, by decide⟩ rfl (Nat.le_of_ble_eq_true rfl) ?_
    refine zg_st (pc' := 34) (L' := [some (.inr 0), some (.inl p1), some (.inl p2), none, none, none, none]) (S' := [.inl 1]) (M' := (mup M 0 0 1)) rfl rfl rfl rfl ?_
    refine zg_jf (tgt := 39) dX5_online_34 rfl (show ¬ ((1 : Int32) = 0) from by decide) ?_
    refine zg_st (pc' := 37) (L' := [some (.inr 0), some (.inl p1), some (.inl p2), none, none, none, none]) (S' := []) (M' := (mup M 0 0 1)) rfl rfl rfl rfl ?_
    refine zg_iconst (v := 0) dX5_online_37 rfl ?_
    exact zg_iret dX5_online_38 rfl rfl ⟨by decide, by decide⟩ rfl
