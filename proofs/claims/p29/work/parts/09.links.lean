/-! ===== by program: what the instructions link ===== -/
theorem zu_X0 : ∀ w ∈ wsX00, w ∈ zTB := by
  have e : wsX00 = [u_lay RX0 TX0 0, u_lay RX0 TX0 1, u_lay RX0 TX0 2, u_lay RX0 TX0 3] := rfl
  rw [e]
  simp only [List.forall_mem_cons, List.not_mem_nil, false_imp_iff, implies_true, and_true]
  exact ⟨zm1 31 (by decide +kernel) rfl, zm1 33 (by decide +kernel) rfl, zm1 35 (by decide +kernel) rfl, zm1 37 (by decide +kernel) rfl⟩
theorem zu_X1 : ∀ w ∈ wsX10, w ∈ zTB := by
  have e : wsX10 = [u_lay RX1 TX1 0, u_lay RX1 TX1 1, u_lay RX1 TX1 2, u_lay RX1 TX1 3] := rfl
  rw [e]
  simp only [List.forall_mem_cons, List.not_mem_nil, false_imp_iff, implies_true, and_true]
  exact ⟨zm1 92 (by decide +kernel) rfl, zm1 94 (by decide +kernel) rfl, zm1 96 (by decide +kernel) rfl, zm1 98 (by decide +kernel) rfl⟩
theorem zu_X2 : ∀ w ∈ wsX20, w ∈ zTB := by
  have e : wsX20 = [u_lay RX2 TX2 0, u_lay RX2 TX2 1] := rfl
  rw [e]
  simp only [List.forall_mem_cons, List.not_mem_nil, false_imp_iff, implies_true, and_true]
  exact ⟨zm1 77 (by decide +kernel) rfl, zm1 79 (by decide +kernel) rfl⟩
theorem zu_X3 : ∀ w ∈ wsX30, w ∈ zTB := by
  have e : wsX30 = [u_lay RX3 TX3 0, u_lay RX3 TX3 1, u_lay RX3 TX3 2, u_lay RX3 TX3 3, u_lay RX3 TX3 4] := rfl
  rw [e]
  simp only [List.forall_mem_cons, List.not_mem_nil, false_imp_iff, implies_true, and_true]
  exact ⟨zm1 56 (by decide +kernel) rfl, zm1 58 (by decide +kernel) rfl, zm1 60 (by decide +kernel) rfl, zm1 62 (by decide +kernel) rfl, zm1 64 (by decide +kernel) rfl⟩
theorem zu_X4 : ∀ w ∈ wsX40, w ∈ zTB := by
  have e : wsX40 = [u_lay RX4 TX4 0, u_lay RX4 TX4 1, u_lay RX4 TX4 2, u_lay RX4 TX4 3, u_lay RX4 TX4 4, u_lay RX4 TX4 5] := rfl
  rw [e]
  simp only [List.forall_mem_cons, List.not_mem_nil, false_imp_iff, implies_true, and_true]
  exact ⟨zm1 108 (by decide +kernel) rfl, zm1 110 (by decide +kernel) rfl, zm1 112 (by decide +kernel) rfl, zm1 114 (by decide +kernel) rfl, zm1 116 (by decide +kernel) rfl, zm1 118 (by decide +kernel) rfl⟩
theorem zk_X0_25 : zlkN RX0 25 mX4_isSideOfMirror 2 := ⟨⟨RX4, List.mem_of_getElem? (i := 1) (by decide +kernel)⟩, (zm1 163 (by decide +kernel) rfl), zi_X4_isSideOfMirror⟩
theorem zk_X0_29 : zlkN RX0 29 mX4_isPlaceNumber 1 := ⟨⟨RX4, List.mem_of_getElem? (i := 2) (by decide +kernel)⟩, (zm2 216 (by decide +kernel) rfl), zi_X4_isPlaceNumber⟩
theorem zk_X0_33 : zlkN RX0 33 mX4_placeNumber 2 := ⟨⟨RX4, List.mem_of_getElem? (i := 3) (by decide +kernel)⟩, (zm2 209 (by decide +kernel) rfl), zi_X4_placeNumber⟩
theorem zk_X0_37 : zlkV RX0 37 mX0_isUsed 1 0 := ⟨_, rfl, (zm3 12 (by decide +kernel) rfl), (zm2 212 (by decide +kernel) rfl), (zm2 213 (by decide +kernel) rfl), zi_X0_isUsed⟩
theorem zk_X0_40 : zlkN RX0 40 mX4_isCellOnSide 2 := ⟨⟨RX4, List.mem_of_getElem? (i := 4) (by decide +kernel)⟩, (zm1 141 (by decide +kernel) rfl), zi_X4_isCellOnSide⟩
theorem zk_X0_43 : zlkN RX0 43 mX4_mirrorOf 1 := ⟨⟨RX4, List.mem_of_getElem? (i := 5) (by decide +kernel)⟩, (zm1 144 (by decide +kernel) rfl), zi_X4_mirrorOf⟩
theorem zk_X0_47 : zlkV RX0 47 mX0_hasSpoilt 2 0 := ⟨_, rfl, (zm1 154 (by decide +kernel) rfl), (zm1 155 (by decide +kernel) rfl), (zm1 156 (by decide +kernel) rfl), zi_X0_hasSpoilt⟩
theorem zk_X0_50 : zlkV RX0 50 mX0_hasOnline 2 0 := ⟨_, rfl, (zm1 158 (by decide +kernel) rfl), (zm1 159 (by decide +kernel) rfl), (zm1 160 (by decide +kernel) rfl), zi_X0_hasOnline⟩
theorem zk_X0_53 : zlkV RX0 53 mX0_mark 3 0 := ⟨_, rfl, (zm1 165 (by decide +kernel) rfl), (zm1 166 (by decide +kernel) rfl), (zm1 167 (by decide +kernel) rfl), zi_X0_mark⟩
theorem zk_X1_24 : zlkS RX1 24 mJ7_fill_53178 2 := ⟨(zm3 93 (by decide +kernel) rfl), (zm1 49 (by decide +kernel) rfl), zi_J7_fill_53178⟩
theorem zk_X1_30 : zlkV RX1 30 mX0_countFree 1 0 := ⟨_, rfl, (zm3 94 (by decide +kernel) rfl), (zm3 8 (by decide +kernel) rfl), (zm3 9 (by decide +kernel) rfl), zi_X0_countFree⟩
theorem zk_X1_36 : zlkN RX1 36 mX4_isPointer 1 := ⟨⟨RX4, List.mem_of_getElem? (i := 6) (by decide +kernel)⟩, (zm1 134 (by decide +kernel) rfl), zi_X4_isPointer⟩
theorem zk_X1_40 : zlkV RX1 40 mX1_takeBeside 2 1 := ⟨_, rfl, (zm3 109 (by decide +kernel) rfl), (zm3 111 (by decide +kernel) rfl), (zms 12 (by decide +kernel) rfl), zi_X1_takeBeside⟩
theorem zk_X1_44 : zlkN RX1 44 mX4_mirrorOf 1 := ⟨⟨RX4, List.mem_of_getElem? (i := 7) (by decide +kernel)⟩, (zm1 144 (by decide +kernel) rfl), zi_X4_mirrorOf⟩
theorem zk_X1_47 : zlkV RX1 47 mX1_roomiestBeside 1 1 := ⟨_, rfl, (zm3 113 (by decide +kernel) rfl), (zm3 115 (by decide +kernel) rfl), (zms 13 (by decide +kernel) rfl), zi_X1_roomiestBeside⟩
theorem zk_X1_50 : zlkN RX1 50 mX4_isMirror 1 := ⟨⟨RX4, List.mem_of_getElem? (i := 8) (by decide +kernel)⟩, (zm2 236 (by decide +kernel) rfl), zi_X4_isMirror⟩
theorem zk_X1_53 : zlkN RX1 53 mX4_placeNumber 2 := ⟨⟨RX4, List.mem_of_getElem? (i := 9) (by decide +kernel)⟩, (zm2 209 (by decide +kernel) rfl), zi_X4_placeNumber⟩
theorem zk_X1_57 : zlkV RX1 57 mX0_isUsed 1 0 := ⟨_, rfl, (zm3 119 (by decide +kernel) rfl), (zm2 212 (by decide +kernel) rfl), (zm2 213 (by decide +kernel) rfl), zi_X0_isUsed⟩
theorem zk_X1_60 : zlkN RX1 60 mX4_isCell 1 := ⟨⟨RX4, List.mem_of_getElem? (i := 10) (by decide +kernel)⟩, (zm2 205 (by decide +kernel) rfl), zi_X4_isCell⟩
theorem zk_X2_15 : zlkS RX2 15 mJ7_fill_53178 2 := ⟨(zm1 73 (by decide +kernel) rfl), (zm1 49 (by decide +kernel) rfl), zi_J7_fill_53178⟩
theorem zk_X2_25 : zlkN RX2 25 mX4_isBlockPointer 1 := ⟨⟨RX4, List.mem_of_getElem? (i := 11) (by decide +kernel)⟩, (zm2 50 (by decide +kernel) rfl), zi_X4_isBlockPointer⟩
theorem zk_X2_29 : zlkN RX2 29 mX4_blockPointer 2 := ⟨⟨RX4, List.mem_of_getElem? (i := 12) (by decide +kernel)⟩, (zm1 177 (by decide +kernel) rfl), zi_X4_blockPointer⟩
theorem zk_X2_33 : zlkV RX2 33 mX2_holds 1 2 := ⟨_, rfl, (zm3 84 (by decide +kernel) rfl), (zm2 46 (by decide +kernel) rfl), (zm2 47 (by decide +kernel) rfl), zi_X2_holds⟩
theorem zk_X2_36 : zlkV RX2 36 mX2_dropChanges 0 2 := ⟨_, rfl, (zm3 197 (by decide +kernel) rfl), (zm3 198 (by decide +kernel) rfl), (zm3 199 (by decide +kernel) rfl), zi_X2_dropChanges⟩
theorem zk_X3_33 : zlkN RX3 33 mX4_isBlockPointer 1 := ⟨⟨RX4, List.mem_of_getElem? (i := 13) (by decide +kernel)⟩, (zm2 50 (by decide +kernel) rfl), zi_X4_isBlockPointer⟩
theorem zk_X3_37 : zlkV RX3 37 mX3_placeOf 2 3 := ⟨_, rfl, (zm1 187 (by decide +kernel) rfl), (zm1 130 (by decide +kernel) rfl), (zm1 131 (by decide +kernel) rfl), zi_X3_placeOf⟩
theorem zk_X3_41 : zlkN RX3 41 mX4_isPointer 1 := ⟨⟨RX4, List.mem_of_getElem? (i := 14) (by decide +kernel)⟩, (zm1 134 (by decide +kernel) rfl), zi_X4_isPointer⟩
theorem zk_X3_44 : zlkV RX3 44 mX3_isMissing 1 3 := ⟨_, rfl, (zm3 24 (by decide +kernel) rfl), (zm1 184 (by decide +kernel) rfl), (zm1 185 (by decide +kernel) rfl), zi_X3_isMissing⟩
theorem zk_X3_47 : zlkV RX3 47 mX3_checksumOf 1 3 := ⟨_, rfl, (zm3 178 (by decide +kernel) rfl), (zm3 67 (by decide +kernel) rfl), (zm3 68 (by decide +kernel) rfl), zi_X3_checksumOf⟩
theorem zk_X3_51 : zlkV RX3 51 mX3_birthOf 1 3 := ⟨_, rfl, (zm3 179 (by decide +kernel) rfl), (zm2 180 (by decide +kernel) rfl), (zm2 181 (by decide +kernel) rfl), zi_X3_birthOf⟩
theorem zk_X3_55 : zlkV RX3 55 mX3_point 3 3 := ⟨_, rfl, (zm3 160 (by decide +kernel) rfl), (zm3 161 (by decide +kernel) rfl), (zm3 162 (by decide +kernel) rfl), zi_X3_point⟩
theorem zk_X3_59 : zlkV RX3 59 mX3_sign 3 3 := ⟨_, rfl, (zm3 164 (by decide +kernel) rfl), (zm3 165 (by decide +kernel) rfl), (zm3 166 (by decide +kernel) rfl), zi_X3_sign⟩
theorem zk_X4_104 : zlkV RX4 104 mX4_healUpToGoodCell 1 4 := ⟨_, rfl, (zm2 111 (by decide +kernel) rfl), (zm2 113 (by decide +kernel) rfl), (zms 6 (by decide +kernel) rfl), zi_X4_healUpToGoodCell⟩
theorem zk_X4_107 : zlkV RX4 107 mX3_valueOf 1 3 := ⟨_, rfl, (zm2 56 (by decide +kernel) rfl), (zm2 57 (by decide +kernel) rfl), (zm2 58 (by decide +kernel) rfl), zi_X3_valueOf⟩
theorem zk_X4_115 : zlkV RX4 115 mX2_count 0 2 := ⟨_, rfl, (zm3 80 (by decide +kernel) rfl), (zm3 81 (by decide +kernel) rfl), (zm3 82 (by decide +kernel) rfl), zi_X2_count⟩
theorem zk_X4_119 : zlkV RX4 119 mX4_choosePlaces 0 4 := ⟨_, rfl, (zm3 85 (by decide +kernel) rfl), (zm3 87 (by decide +kernel) rfl), (zms 10 (by decide +kernel) rfl), zi_X4_choosePlaces⟩
theorem zk_X4_125 : zlkV RX4 125 mX4_writeChanges 0 4 := ⟨_, rfl, (zm3 131 (by decide +kernel) rfl), (zm3 133 (by decide +kernel) rfl), (zms 16 (by decide +kernel) rfl), zi_X4_writeChanges⟩
theorem zk_X4_128 : zlkV RX4 128 mX4_freeWhatIsNotPointedTo 0 4 := ⟨_, rfl, (zm3 181 (by decide +kernel) rfl), (zm3 183 (by decide +kernel) rfl), (zms 19 (by decide +kernel) rfl), zi_X4_freeWhatIsNotPointedTo⟩
theorem zk_X4_131 : zlkV RX4 131 mX2_close 0 2 := ⟨_, rfl, (zm3 193 (by decide +kernel) rfl), (zm3 194 (by decide +kernel) rfl), (zm3 195 (by decide +kernel) rfl), zi_X2_close⟩
theorem zk_X4_134 : zlkV RX4 134 mX2_dropChanges 0 2 := ⟨_, rfl, (zm3 205 (by decide +kernel) rfl), (zm3 198 (by decide +kernel) rfl), (zm3 199 (by decide +kernel) rfl), zi_X2_dropChanges⟩
theorem zk_X4_140 : zlkS RX4 140 mX4_isSideOfMirror 2 := ⟨(zm2 155 (by decide +kernel) rfl), (zm1 163 (by decide +kernel) rfl), zi_X4_isSideOfMirror⟩
theorem zk_X4_145 : zlkV RX4 145 mX0_hasOnline 2 0 := ⟨_, rfl, (zm2 157 (by decide +kernel) rfl), (zm1 159 (by decide +kernel) rfl), (zm1 160 (by decide +kernel) rfl), zi_X0_hasOnline⟩
theorem zk_X4_150 : zlkV RX4 150 mX0_takeOffline 3 0 := ⟨_, rfl, (zm2 159 (by decide +kernel) rfl), (zm2 160 (by decide +kernel) rfl), (zm2 161 (by decide +kernel) rfl), zi_X0_takeOffline⟩
theorem zk_X4_156 : zlkV RX4 156 mX4_resilver 2 4 := ⟨_, rfl, (zm2 171 (by decide +kernel) rfl), (zm2 173 (by decide +kernel) rfl), (zms 7 (by decide +kernel) rfl), zi_X4_resilver⟩
theorem zk_X4_159 : zlkV RX4 159 mX0_bringOnline 2 0 := ⟨_, rfl, (zm2 193 (by decide +kernel) rfl), (zm2 194 (by decide +kernel) rfl), (zm2 195 (by decide +kernel) rfl), zi_X0_bringOnline⟩
theorem zk_X4_162 : zlkS RX4 162 mX4_isCell 1 := ⟨(zm2 204 (by decide +kernel) rfl), (zm2 205 (by decide +kernel) rfl), zi_X4_isCell⟩
theorem zk_X4_167 : zlkS RX4 167 mX4_placeNumber 2 := ⟨(zm2 208 (by decide +kernel) rfl), (zm2 209 (by decide +kernel) rfl), zi_X4_placeNumber⟩
theorem zk_X4_170 : zlkV RX4 170 mX0_isUsed 1 0 := ⟨_, rfl, (zm2 211 (by decide +kernel) rfl), (zm2 212 (by decide +kernel) rfl), (zm2 213 (by decide +kernel) rfl), zi_X0_isUsed⟩
theorem zk_X4_175 : zlkV RX4 175 mX0_hasSpoilt 2 0 := ⟨_, rfl, (zm2 219 (by decide +kernel) rfl), (zm1 155 (by decide +kernel) rfl), (zm1 156 (by decide +kernel) rfl), zi_X0_hasSpoilt⟩
theorem zk_X4_178 : zlkV RX4 178 mX0_mark 3 0 := ⟨_, rfl, (zm2 188 (by decide +kernel) rfl), (zm1 166 (by decide +kernel) rfl), (zm1 167 (by decide +kernel) rfl), zi_X0_mark⟩
theorem zk_X4_184 : zlkS RX4 184 mX4_isMirror 1 := ⟨(zm2 235 (by decide +kernel) rfl), (zm2 236 (by decide +kernel) rfl), zi_X4_isMirror⟩
theorem zk_X4_191 : zlkV RX4 191 mX0_countFree 1 0 := ⟨_, rfl, (zm3 7 (by decide +kernel) rfl), (zm3 8 (by decide +kernel) rfl), (zm3 9 (by decide +kernel) rfl), zi_X0_countFree⟩
theorem zk_X4_194 : zlkV RX4 194 mX4_canFetch 1 4 := ⟨_, rfl, (zm1 125 (by decide +kernel) rfl), (zm1 127 (by decide +kernel) rfl), (zms 0 (by decide +kernel) rfl), zi_X4_canFetch⟩
theorem zk_X4_197 : zlkV RX4 197 mX4_healEveryCell 1 4 := ⟨_, rfl, (zm1 146 (by decide +kernel) rfl), (zm1 148 (by decide +kernel) rfl), (zms 1 (by decide +kernel) rfl), zi_X4_healEveryCell⟩
theorem zk_X4_200 : zlkV RX4 200 mX4_scrubFile 1 4 := ⟨_, rfl, (zm1 169 (by decide +kernel) rfl), (zm1 171 (by decide +kernel) rfl), (zms 2 (by decide +kernel) rfl), zi_X4_scrubFile⟩
theorem zk_X4_203 : zlkV RX4 203 mX3_isMissing 1 3 := ⟨_, rfl, (zm1 183 (by decide +kernel) rfl), (zm1 184 (by decide +kernel) rfl), (zm1 185 (by decide +kernel) rfl), zi_X3_isMissing⟩
theorem zk_X4_206 : zlkV RX4 206 mX3_countPlaces 1 3 := ⟨_, rfl, (zm3 20 (by decide +kernel) rfl), (zm3 21 (by decide +kernel) rfl), (zm3 22 (by decide +kernel) rfl), zi_X3_countPlaces⟩
theorem zk_X4_209 : zlkV RX4 209 mX3_placeOf 2 3 := ⟨_, rfl, (zm1 129 (by decide +kernel) rfl), (zm1 130 (by decide +kernel) rfl), (zm1 131 (by decide +kernel) rfl), zi_X3_placeOf⟩
theorem zk_X4_212 : zlkS RX4 212 mX4_told 1 := ⟨(zm3 32 (by decide +kernel) rfl), (zm3 33 (by decide +kernel) rfl), zi_X4_told⟩
theorem zk_X4_217 : zlkV RX4 217 mX3_birthOf 1 3 := ⟨_, rfl, (zm2 179 (by decide +kernel) rfl), (zm2 180 (by decide +kernel) rfl), (zm2 181 (by decide +kernel) rfl), zi_X3_birthOf⟩
theorem zk_X4_220 : zlkV RX4 220 mX3_checksumOf 1 3 := ⟨_, rfl, (zm3 66 (by decide +kernel) rfl), (zm3 67 (by decide +kernel) rfl), (zm3 68 (by decide +kernel) rfl), zi_X3_checksumOf⟩
theorem zk_X4_223 : zlkS RX4 223 mX4_isPlaceNumber 1 := ⟨(zm3 35 (by decide +kernel) rfl), (zm2 216 (by decide +kernel) rfl), zi_X4_isPlaceNumber⟩
theorem zk_X4_228 : zlkS RX4 228 mX4_mirrorOf 1 := ⟨(zm2 187 (by decide +kernel) rfl), (zm1 144 (by decide +kernel) rfl), zi_X4_mirrorOf⟩
theorem zk_X4_231 : zlkV RX4 231 mX4_hasData 1 4 := ⟨_, rfl, (zm3 122 (by decide +kernel) rfl), (zm3 124 (by decide +kernel) rfl), (zms 14 (by decide +kernel) rfl), zi_X4_hasData⟩
theorem zk_X4_234 : zlkV RX4 234 mX0_isGood 2 0 := ⟨_, rfl, (zm1 136 (by decide +kernel) rfl), (zm1 137 (by decide +kernel) rfl), (zm1 138 (by decide +kernel) rfl), zi_X0_isGood⟩
theorem zk_X4_237 : zlkV RX4 237 mX0_heal 2 0 := ⟨_, rfl, (zm1 150 (by decide +kernel) rfl), (zm1 151 (by decide +kernel) rfl), (zm1 152 (by decide +kernel) rfl), zi_X0_heal⟩
theorem zk_X4_240 : zlkV RX4 240 mX1_begin 1 1 := ⟨_, rfl, (zm3 89 (by decide +kernel) rfl), (zm3 90 (by decide +kernel) rfl), (zm3 91 (by decide +kernel) rfl), zi_X1_begin⟩
theorem zk_X4_244 : zlkV RX4 244 mX2_changes 1 2 := ⟨_, rfl, (zm3 95 (by decide +kernel) rfl), (zm3 96 (by decide +kernel) rfl), (zm3 97 (by decide +kernel) rfl), zi_X2_changes⟩
theorem zk_X4_247 : zlkV RX4 247 mX4_chooseForFile 1 4 := ⟨_, rfl, (zm3 100 (by decide +kernel) rfl), (zm3 102 (by decide +kernel) rfl), (zms 11 (by decide +kernel) rfl), zi_X4_chooseForFile⟩
theorem zk_X4_250 : zlkV RX4 250 mX4_hasDataAnywhere 0 4 := ⟨_, rfl, (zm3 126 (by decide +kernel) rfl), (zm3 128 (by decide +kernel) rfl), (zms 15 (by decide +kernel) rfl), zi_X4_hasDataAnywhere⟩
theorem zk_X4_253 : zlkV RX4 253 mX1_choose 3 1 := ⟨_, rfl, (zm3 104 (by decide +kernel) rfl), (zm3 105 (by decide +kernel) rfl), (zm3 106 (by decide +kernel) rfl), zi_X1_choose⟩
theorem zk_X4_257 : zlkV RX4 257 mX4_writeFile 1 4 := ⟨_, rfl, (zm3 135 (by decide +kernel) rfl), (zm3 137 (by decide +kernel) rfl), (zms 17 (by decide +kernel) rfl), zi_X4_writeFile⟩
theorem zk_X4_260 : zlkV RX4 260 mX3_checksumOfNode 2 3 := ⟨_, rfl, (zm3 174 (by decide +kernel) rfl), (zm3 175 (by decide +kernel) rfl), (zm3 176 (by decide +kernel) rfl), zi_X3_checksumOfNode⟩
theorem zk_X4_263 : zlkV RX4 263 mX4_repoint 2 4 := ⟨_, rfl, (zm3 144 (by decide +kernel) rfl), (zm3 146 (by decide +kernel) rfl), (zms 18 (by decide +kernel) rfl), zi_X4_repoint⟩
theorem zk_X4_266 : zlkV RX4 266 mX3_keepValue 2 3 := ⟨_, rfl, (zm3 139 (by decide +kernel) rfl), (zm3 140 (by decide +kernel) rfl), (zm3 141 (by decide +kernel) rfl), zi_X3_keepValue⟩
theorem zk_X4_270 : zlkV RX4 270 mX1_firstFor 1 1 := ⟨_, rfl, (zm3 148 (by decide +kernel) rfl), (zm3 149 (by decide +kernel) rfl), (zm3 150 (by decide +kernel) rfl), zi_X1_firstFor⟩
theorem zk_X4_273 : zlkV RX4 273 mX1_secondFor 1 1 := ⟨_, rfl, (zm3 152 (by decide +kernel) rfl), (zm3 153 (by decide +kernel) rfl), (zm3 154 (by decide +kernel) rfl), zi_X1_secondFor⟩
theorem zk_X4_276 : zlkV RX4 276 mX3_drop 1 3 := ⟨_, rfl, (zm3 156 (by decide +kernel) rfl), (zm3 157 (by decide +kernel) rfl), (zm3 158 (by decide +kernel) rfl), zi_X3_drop⟩
theorem zk_X4_280 : zlkV RX4 280 mX3_point 3 3 := ⟨_, rfl, (zm3 168 (by decide +kernel) rfl), (zm3 161 (by decide +kernel) rfl), (zm3 162 (by decide +kernel) rfl), zi_X3_point⟩
theorem zk_X4_283 : zlkV RX4 283 mX3_sign 3 3 := ⟨_, rfl, (zm3 169 (by decide +kernel) rfl), (zm3 165 (by decide +kernel) rfl), (zm3 166 (by decide +kernel) rfl), zi_X3_sign⟩
theorem zk_X4_286 : zlkV RX4 286 mX0_fill 1 0 := ⟨_, rfl, (zm3 170 (by decide +kernel) rfl), (zm3 171 (by decide +kernel) rfl), (zm3 172 (by decide +kernel) rfl), zi_X0_fill⟩
theorem zk_X4_288 : zlkV RX4 288 mX0_freeAll 0 0 := ⟨_, rfl, (zm3 185 (by decide +kernel) rfl), (zm3 186 (by decide +kernel) rfl), (zm3 187 (by decide +kernel) rfl), zi_X0_freeAll⟩
theorem zk_X4_291 : zlkV RX4 291 mX0_use 1 0 := ⟨_, rfl, (zm3 189 (by decide +kernel) rfl), (zm3 190 (by decide +kernel) rfl), (zm3 191 (by decide +kernel) rfl), zi_X0_use⟩
theorem zk_X4_294 : zlkV RX4 294 mX0_outageOf 2 0 := ⟨_, rfl, (zm2 175 (by decide +kernel) rfl), (zm2 176 (by decide +kernel) rfl), (zm2 177 (by decide +kernel) rfl), zi_X0_outageOf⟩
theorem zk_X4_297 : zlkV RX4 297 mX4_copyToSide 3 4 := ⟨_, rfl, (zm2 183 (by decide +kernel) rfl), (zm2 185 (by decide +kernel) rfl), (zms 8 (by decide +kernel) rfl), zi_X4_copyToSide⟩
theorem zk_X4_301 : zlkV RX4 301 mX4_resilverFile 3 4 := ⟨_, rfl, (zm2 189 (by decide +kernel) rfl), (zm2 191 (by decide +kernel) rfl), (zms 9 (by decide +kernel) rfl), zi_X4_resilverFile⟩
theorem zk_X4_51 : zlkS RX4 51 mX4_isBlockOfFile 2 := ⟨(zm1 204 (by decide +kernel) rfl), (zm1 205 (by decide +kernel) rfl), zi_X4_isBlockOfFile⟩
theorem zk_X4_62 : zlkV RX4 62 mX4_valueNow 2 4 := ⟨_, rfl, (zm2 41 (by decide +kernel) rfl), (zm2 43 (by decide +kernel) rfl), (zms 4 (by decide +kernel) rfl), zi_X4_valueNow⟩
theorem zk_X4_66 : zlkS RX4 66 mX4_blockPointer 2 := ⟨(zm1 176 (by decide +kernel) rfl), (zm1 177 (by decide +kernel) rfl), zi_X4_blockPointer⟩
theorem zk_X4_69 : zlkV RX4 69 mX2_change 2 2 := ⟨_, rfl, (zm2 61 (by decide +kernel) rfl), (zm2 62 (by decide +kernel) rfl), (zm2 63 (by decide +kernel) rfl), zi_X2_change⟩
theorem zk_X4_73 : zlkS RX4 73 mX4_isBlock 1 := ⟨(zm1 210 (by decide +kernel) rfl), (zm1 211 (by decide +kernel) rfl), zi_X4_isBlock⟩
theorem zk_X4_79 : zlkS RX4 79 mX4_isFile 1 := ⟨(zm1 207 (by decide +kernel) rfl), (zm1 208 (by decide +kernel) rfl), zi_X4_isFile⟩
theorem zk_X4_86 : zlkV RX4 86 mX2_holds 1 2 := ⟨_, rfl, (zm2 45 (by decide +kernel) rfl), (zm2 46 (by decide +kernel) rfl), (zm2 47 (by decide +kernel) rfl), zi_X2_holds⟩
theorem zk_X4_89 : zlkV RX4 89 mX2_changeOf 1 2 := ⟨_, rfl, (zm2 52 (by decide +kernel) rfl), (zm2 53 (by decide +kernel) rfl), (zm2 54 (by decide +kernel) rfl), zi_X2_changeOf⟩
theorem zk_X4_93 : zlkS RX4 93 mX4_filePointer 1 := ⟨(zm1 173 (by decide +kernel) rfl), (zm1 174 (by decide +kernel) rfl), zi_X4_filePointer⟩
theorem zk_X4_96 : zlkV RX4 96 mX4_isUnreadable 1 4 := ⟨_, rfl, (zm2 91 (by decide +kernel) rfl), (zm2 93 (by decide +kernel) rfl), (zms 5 (by decide +kernel) rfl), zi_X4_isUnreadable⟩
theorem zf_X0_15 : zfg RX0 15 0 1 := ⟨RX0, TX0, 4, "", rfl, zu_X0, by decide, Or.inl (zm1 28 (by decide +kernel) rfl)⟩
theorem zf_X0_18 : zfg RX0 18 0 2 := ⟨RX0, TX0, 4, "", rfl, zu_X0, by decide, Or.inl (zm1 29 (by decide +kernel) rfl)⟩
theorem zf_X0_21 : zfg RX0 21 0 3 := ⟨RX0, TX0, 4, "", rfl, zu_X0, by decide, Or.inl (zm1 30 (by decide +kernel) rfl)⟩
theorem zf_X0_9 : zfg RX0 9 0 0 := ⟨RX0, TX0, 4, "", rfl, zu_X0, by decide, Or.inl (zm1 27 (by decide +kernel) rfl)⟩
theorem zf_X1_15 : zfg RX1 15 1 1 := ⟨RX1, TX1, 4, "", rfl, zu_X1, by decide, Or.inl (zm1 89 (by decide +kernel) rfl)⟩
theorem zf_X1_18 : zfg RX1 18 1 2 := ⟨RX1, TX1, 4, "", rfl, zu_X1, by decide, Or.inl (zm1 90 (by decide +kernel) rfl)⟩
theorem zf_X1_21 : zfg RX1 21 1 3 := ⟨RX1, TX1, 4, "", rfl, zu_X1, by decide, Or.inl (zm1 91 (by decide +kernel) rfl)⟩
theorem zf_X1_9 : zfg RX1 9 1 0 := ⟨RX1, TX1, 4, "", rfl, zu_X1, by decide, Or.inl (zm1 88 (by decide +kernel) rfl)⟩
theorem zf_X2_21 : zfg RX2 21 2 1 := ⟨RX2, TX2, 2, "", rfl, zu_X2, by decide, Or.inl (zm1 75 (by decide +kernel) rfl)⟩
theorem zf_X2_9 : zfg RX2 9 2 0 := ⟨RX2, TX2, 2, "", rfl, zu_X2, by decide, Or.inl (zm1 74 (by decide +kernel) rfl)⟩
theorem zf_X3_21 : zfg RX3 21 3 1 := ⟨RX3, TX3, 5, "", rfl, zu_X3, by decide, Or.inl (zm1 52 (by decide +kernel) rfl)⟩
theorem zf_X3_24 : zfg RX3 24 3 2 := ⟨RX3, TX3, 5, "", rfl, zu_X3, by decide, Or.inl (zm1 53 (by decide +kernel) rfl)⟩
theorem zf_X3_27 : zfg RX3 27 3 3 := ⟨RX3, TX3, 5, "", rfl, zu_X3, by decide, Or.inl (zm1 54 (by decide +kernel) rfl)⟩
theorem zf_X3_30 : zfg RX3 30 3 4 := ⟨RX3, TX3, 5, "", rfl, zu_X3, by decide, Or.inl (zm1 55 (by decide +kernel) rfl)⟩
theorem zf_X3_9 : zfg RX3 9 3 0 := ⟨RX3, TX3, 5, "", rfl, zu_X3, by decide, Or.inl (zm1 51 (by decide +kernel) rfl)⟩
theorem zf_X4_12 : zfg RX4 12 4 0 := ⟨RX4, TX4, 6, "", rfl, zu_X4, by decide, Or.inl (zm1 102 (by decide +kernel) rfl)⟩
theorem zf_X4_137 : zfg RX4 137 2 1 := ⟨RX2, TX2, 2, RX4, rfl, zu_X2, by decide, Or.inr (List.mem_of_getElem? (i := 0) rfl)⟩
theorem zf_X4_19 : zfg RX4 19 4 1 := ⟨RX4, TX4, 6, "", rfl, zu_X4, by decide, Or.inl (zm1 103 (by decide +kernel) rfl)⟩
theorem zf_X4_26 : zfg RX4 26 4 2 := ⟨RX4, TX4, 6, "", rfl, zu_X4, by decide, Or.inl (zm1 104 (by decide +kernel) rfl)⟩
theorem zf_X4_33 : zfg RX4 33 4 3 := ⟨RX4, TX4, 6, "", rfl, zu_X4, by decide, Or.inl (zm1 105 (by decide +kernel) rfl)⟩
theorem zf_X4_37 : zfg RX4 37 4 4 := ⟨RX4, TX4, 6, "", rfl, zu_X4, by decide, Or.inl (zm1 106 (by decide +kernel) rfl)⟩
theorem zf_X4_47 : zfg RX4 47 4 5 := ⟨RX4, TX4, 6, "", rfl, zu_X4, by decide, Or.inl (zm1 107 (by decide +kernel) rfl)⟩
theorem zp_X2_21 : zfp RX2 21 2 1 := ⟨RX2, TX2, 2, tyX2, rfl, zu_X2, by decide, (zm1 75 (by decide +kernel) rfl), tyX2_ok, nmX2, by decide, by decide +kernel⟩
theorem zp_X4_47 : zfp RX4 47 4 5 := ⟨RX4, TX4, 6, tyX4, rfl, zu_X4, by decide, (zm1 107 (by decide +kernel) rfl), tyX4_ok, nmX4, by decide, by decide +kernel⟩
theorem zt_55 : zth RX4 55 59 "java/lang/IllegalArgumentException" ["java/lang/RuntimeException", "java/lang/Exception"] := ⟨by decide +kernel, by decide +kernel, (zm1 213 (by decide +kernel) rfl), (zm1 10 (by decide +kernel) rfl), fun w hw => zTB_of ((by decide +kernel : ∀ w ∈ (vx_atS RX4 59 "java/lang/IllegalArgumentException" ["java/lang/RuntimeException", "java/lang/Exception"]).filter goodWord, w ∈ lw_tbl) w hw) (List.mem_filter.mp hw).2, by decide +kernel, by decide +kernel⟩
theorem zt_99 : zth RX4 99 103 "java/lang/IllegalStateException" ["java/lang/RuntimeException", "java/lang/Exception"] := ⟨by decide +kernel, by decide +kernel, (zm2 95 (by decide +kernel) rfl), (zm1 11 (by decide +kernel) rfl), fun w hw => zTB_of ((by decide +kernel : ∀ w ∈ (vx_atS RX4 103 "java/lang/IllegalStateException" ["java/lang/RuntimeException", "java/lang/Exception"]).filter goodWord, w ∈ lw_tbl) w hw) (List.mem_filter.mp hw).2, by decide +kernel, by decide +kernel⟩
