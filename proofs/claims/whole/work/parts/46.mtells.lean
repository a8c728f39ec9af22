theorem wd_f12_100 : Cond.fieldLink "NameRollsModel" 100 "NameRollsModel" "textMany" "[I" ∈ UW := UW7_at 106 (by decide +kernel) rfl
theorem wd_m12_379 : Cond.methodLink "NameRollsModel" 379 M_X12_workOut.1 ∈ UW := UW9_at 62 (by decide +kernel) rfl
theorem wd_s12_workOut : Cond.selects M_X12_workOut.1.cls M_X12_workOut.1 M_X12_workOut.1 ∈ UW := UWp_at 72 (by decide +kernel) rfl
theorem wd_m12_386 : Cond.methodLink "NameRollsModel" 386 M_X12_saidOf.1 ∈ UW := UW9_at 117 (by decide +kernel) rfl
theorem wd_s12_saidOf : Cond.selects M_X12_saidOf.1.cls M_X12_saidOf.1 M_X12_saidOf.1 ∈ UW := UWp_at 83 (by decide +kernel) rfl
theorem wd_m12_390 : Cond.methodLink "NameRollsModel" 390 M_X12_mayStayOn.1 ∈ UW := UW9_at 129 (by decide +kernel) rfl
theorem wd_s12_mayStayOn : Cond.selects M_X12_mayStayOn.1.cls M_X12_mayStayOn.1 M_X12_mayStayOn.1 ∈ UW := UWp_at 84 (by decide +kernel) rfl
theorem wd_m12_393 : Cond.methodLink "NameRollsModel" 393 M_X12_worthOf.1 ∈ UW := UW9_at 137 (by decide +kernel) rfl
theorem wd_s12_worthOf : Cond.selects M_X12_worthOf.1.cls M_X12_worthOf.1 M_X12_worthOf.1 ∈ UW := UWp_at 85 (by decide +kernel) rfl
theorem r_12_saidOf_0 : RA M_X12_saidOf 0 0 1 := Or.inl ⟨0, by decide +kernel, rfl, rfl⟩
theorem r_12_saidOf_1 : RG M_X12_saidOf 1 12 49 4 := ⟨115, _, by decide +kernel, rfl, by decide, wd_f12_115, rfl, rfl⟩
theorem r_12_saidOf_4 : RC M_X12_saidOf 4 0 5 := ⟨⟨by decide, by decide⟩, Or.inl ⟨by decide +kernel, rfl⟩⟩
theorem r_12_saidOf_5 : RA M_X12_saidOf 5 0 6 := Or.inl ⟨0, by decide +kernel, rfl, rfl⟩
theorem r_12_saidOf_6 : RG M_X12_saidOf 6 12 6 9 := ⟨22, _, by decide +kernel, rfl, by decide, wd_f12_22, rfl, rfl⟩
theorem r_12_saidOf_9 : RL M_X12_saidOf 9 2 10 := Or.inl ⟨2, by decide +kernel, rfl, rfl⟩
theorem r_12_saidOf_10 : RW M_X12_saidOf 10 .iaload 11 1 := ⟨by decide +kernel, rfl⟩
theorem r_12_saidOf_11 : RW M_X12_saidOf 11 .iastore 12 1 := ⟨by decide +kernel, rfl⟩
theorem r_12_saidOf_12 : RA M_X12_saidOf 12 0 13 := Or.inl ⟨0, by decide +kernel, rfl, rfl⟩
theorem r_12_saidOf_13 : RG M_X12_saidOf 13 12 49 16 := ⟨115, _, by decide +kernel, rfl, by decide, wd_f12_115, rfl, rfl⟩
theorem r_12_saidOf_16 : RC M_X12_saidOf 16 1 17 := ⟨⟨by decide, by decide⟩, Or.inl ⟨by decide +kernel, rfl⟩⟩
theorem r_12_saidOf_17 : RA M_X12_saidOf 17 0 18 := Or.inl ⟨0, by decide +kernel, rfl, rfl⟩
theorem r_12_saidOf_18 : RL M_X12_saidOf 18 3 19 := Or.inl ⟨3, by decide +kernel, rfl, rfl⟩
theorem r_12_saidOf_19 : RL M_X12_saidOf 19 2 20 := Or.inl ⟨2, by decide +kernel, rfl, rfl⟩
theorem r_12_saidOf_20 : RC M_X12_saidOf 20 0 21 := ⟨⟨by decide, by decide⟩, Or.inl ⟨by decide +kernel, rfl⟩⟩
theorem r_12_saidOf_21 : RL M_X12_saidOf 21 5 23 := Or.inr ⟨by decide +kernel, rfl⟩
theorem r_12_saidOf_23 : RKv M_X12_saidOf M_X12_knownTo 23 4 12 26 := ⟨305, by decide +kernel, wd_m12_305, ok_M_X12_knownTo, wd_s12_knownTo, rfl⟩
theorem r_12_saidOf_26 : RW M_X12_saidOf 26 .iastore 27 1 := ⟨by decide +kernel, rfl⟩
theorem r_12_saidOf_27 : RA M_X12_saidOf 27 0 28 := Or.inl ⟨0, by decide +kernel, rfl, rfl⟩
theorem r_12_saidOf_28 : RG M_X12_saidOf 28 12 49 31 := ⟨115, _, by decide +kernel, rfl, by decide, wd_f12_115, rfl, rfl⟩
theorem r_12_saidOf_31 : RC M_X12_saidOf 31 2 32 := ⟨⟨by decide, by decide⟩, Or.inl ⟨by decide +kernel, rfl⟩⟩
theorem r_12_saidOf_32 : RA M_X12_saidOf 32 0 33 := Or.inl ⟨0, by decide +kernel, rfl, rfl⟩
theorem r_12_saidOf_33 : RL M_X12_saidOf 33 3 34 := Or.inl ⟨3, by decide +kernel, rfl, rfl⟩
theorem r_12_saidOf_34 : RL M_X12_saidOf 34 2 35 := Or.inl ⟨2, by decide +kernel, rfl, rfl⟩
theorem r_12_saidOf_35 : RC M_X12_saidOf 35 1 36 := ⟨⟨by decide, by decide⟩, Or.inl ⟨by decide +kernel, rfl⟩⟩
theorem r_12_saidOf_36 : RL M_X12_saidOf 36 5 38 := Or.inr ⟨by decide +kernel, rfl⟩
theorem r_12_saidOf_38 : RKv M_X12_saidOf M_X12_knownTo 38 4 12 41 := ⟨305, by decide +kernel, wd_m12_305, ok_M_X12_knownTo, wd_s12_knownTo, rfl⟩
theorem r_12_saidOf_41 : RW M_X12_saidOf 41 .iastore 42 1 := ⟨by decide +kernel, rfl⟩
theorem r_12_saidOf_42 : RA M_X12_saidOf 42 0 43 := Or.inl ⟨0, by decide +kernel, rfl, rfl⟩
theorem r_12_saidOf_43 : RG M_X12_saidOf 43 12 49 46 := ⟨115, _, by decide +kernel, rfl, by decide, wd_f12_115, rfl, rfl⟩
theorem r_12_saidOf_46 : RC M_X12_saidOf 46 3 47 := ⟨⟨by decide, by decide⟩, Or.inl ⟨by decide +kernel, rfl⟩⟩
theorem r_12_saidOf_47 : RA M_X12_saidOf 47 0 48 := Or.inl ⟨0, by decide +kernel, rfl, rfl⟩
theorem r_12_saidOf_48 : RL M_X12_saidOf 48 3 49 := Or.inl ⟨3, by decide +kernel, rfl, rfl⟩
theorem r_12_saidOf_49 : RL M_X12_saidOf 49 2 50 := Or.inl ⟨2, by decide +kernel, rfl, rfl⟩
theorem r_12_saidOf_50 : RC M_X12_saidOf 50 2 51 := ⟨⟨by decide, by decide⟩, Or.inl ⟨by decide +kernel, rfl⟩⟩
theorem r_12_saidOf_51 : RL M_X12_saidOf 51 5 53 := Or.inr ⟨by decide +kernel, rfl⟩
theorem r_12_saidOf_53 : RKv M_X12_saidOf M_X12_knownTo 53 4 12 56 := ⟨305, by decide +kernel, wd_m12_305, ok_M_X12_knownTo, wd_s12_knownTo, rfl⟩
theorem r_12_saidOf_56 : RW M_X12_saidOf 56 .iastore 57 1 := ⟨by decide +kernel, rfl⟩
theorem r_12_saidOf_57 : RA M_X12_saidOf 57 0 58 := Or.inl ⟨0, by decide +kernel, rfl, rfl⟩
theorem r_12_saidOf_58 : RG M_X12_saidOf 58 12 49 61 := ⟨115, _, by decide +kernel, rfl, by decide, wd_f12_115, rfl, rfl⟩
theorem r_12_saidOf_61 : RC M_X12_saidOf 61 4 62 := ⟨⟨by decide, by decide⟩, Or.inl ⟨by decide +kernel, rfl⟩⟩
theorem r_12_saidOf_62 : RA M_X12_saidOf 62 0 63 := Or.inl ⟨0, by decide +kernel, rfl, rfl⟩
theorem r_12_saidOf_63 : RG M_X12_saidOf 63 12 10 66 := ⟨34, _, by decide +kernel, rfl, by decide, wd_f12_34, rfl, rfl⟩
theorem r_12_saidOf_66 : RL M_X12_saidOf 66 2 67 := Or.inl ⟨2, by decide +kernel, rfl, rfl⟩
theorem r_12_saidOf_67 : RW M_X12_saidOf 67 .iaload 68 1 := ⟨by decide +kernel, rfl⟩
theorem r_12_saidOf_68 : RW M_X12_saidOf 68 .iastore 69 1 := ⟨by decide +kernel, rfl⟩
theorem r_12_saidOf_69 : RA M_X12_saidOf 69 0 70 := Or.inl ⟨0, by decide +kernel, rfl, rfl⟩
theorem r_12_saidOf_70 : RG M_X12_saidOf 70 12 49 73 := ⟨115, _, by decide +kernel, rfl, by decide, wd_f12_115, rfl, rfl⟩
theorem r_12_saidOf_73 : RC M_X12_saidOf 73 5 74 := ⟨⟨by decide, by decide⟩, Or.inl ⟨by decide +kernel, rfl⟩⟩
theorem r_12_saidOf_74 : RL M_X12_saidOf 74 4 76 := Or.inr ⟨by decide +kernel, rfl⟩
theorem r_12_saidOf_76 : RA M_X12_saidOf 76 0 77 := Or.inl ⟨0, by decide +kernel, rfl, rfl⟩
theorem r_12_saidOf_77 : RG M_X12_saidOf 77 12 14 80 := ⟨46, _, by decide +kernel, rfl, by decide, wd_f12_46, rfl, rfl⟩
theorem r_12_saidOf_80 : RL M_X12_saidOf 80 2 81 := Or.inl ⟨2, by decide +kernel, rfl, rfl⟩
theorem r_12_saidOf_81 : RW M_X12_saidOf 81 .iaload 82 1 := ⟨by decide +kernel, rfl⟩
theorem r_12_saidOf_82 : RB M_X12_saidOf 82 (.if_icmp .le) 97 85 := ⟨15, by decide +kernel, rfl, rfl⟩
theorem r_12_saidOf_97 : RC M_X12_saidOf 97 0 98 := ⟨⟨by decide, by decide⟩, Or.inl ⟨by decide +kernel, rfl⟩⟩
theorem r_12_saidOf_98 : RW M_X12_saidOf 98 .iastore 99 1 := ⟨by decide +kernel, rfl⟩
theorem r_12_saidOf_99 : RA M_X12_saidOf 99 0 100 := Or.inl ⟨0, by decide +kernel, rfl, rfl⟩
theorem r_12_saidOf_100 : RG M_X12_saidOf 100 12 49 103 := ⟨115, _, by decide +kernel, rfl, by decide, wd_f12_115, rfl, rfl⟩
theorem r_12_saidOf_103 : RC M_X12_saidOf 103 6 105 := ⟨⟨by decide, by decide⟩, Or.inr (Or.inl ⟨by decide +kernel, by decide, rfl⟩)⟩
theorem r_12_saidOf_105 : RA M_X12_saidOf 105 0 106 := Or.inl ⟨0, by decide +kernel, rfl, rfl⟩
theorem r_12_saidOf_106 : RC M_X12_saidOf 106 1 107 := ⟨⟨by decide, by decide⟩, Or.inl ⟨by decide +kernel, rfl⟩⟩
theorem r_12_saidOf_107 : RL M_X12_saidOf 107 3 108 := Or.inl ⟨3, by decide +kernel, rfl, rfl⟩
theorem r_12_saidOf_108 : RW M_X12_saidOf 108 .isub 109 1 := ⟨by decide +kernel, rfl⟩
theorem r_12_saidOf_109 : RL M_X12_saidOf 109 4 111 := Or.inr ⟨by decide +kernel, rfl⟩
theorem r_12_saidOf_111 : RA M_X12_saidOf 111 0 112 := Or.inl ⟨0, by decide +kernel, rfl, rfl⟩
theorem r_12_saidOf_112 : RG M_X12_saidOf 112 12 0 115 := ⟨268, _, by decide +kernel, rfl, by decide, wd_f12_268, rfl, rfl⟩
theorem r_12_saidOf_115 : RB M_X12_saidOf 115 (.if_icmp .ge) 123 118 := ⟨8, by decide +kernel, rfl, rfl⟩
theorem r_12_saidOf_123 : RA M_X12_saidOf 123 0 124 := Or.inl ⟨0, by decide +kernel, rfl, rfl⟩
theorem r_12_saidOf_124 : RG M_X12_saidOf 124 12 0 127 := ⟨268, _, by decide +kernel, rfl, by decide, wd_f12_268, rfl, rfl⟩
theorem r_12_saidOf_127 : RKv M_X12_saidOf M_X12_brokenOf 127 2 12 130 := ⟨319, by decide +kernel, wd_m12_319, ok_M_X12_brokenOf, wd_s12_brokenOf, rfl⟩
theorem r_12_saidOf_130 : RW M_X12_saidOf 130 .iastore 131 1 := ⟨by decide +kernel, rfl⟩
theorem r_12_saidOf_131 : RA M_X12_saidOf 131 0 132 := Or.inl ⟨0, by decide +kernel, rfl, rfl⟩
theorem r_12_saidOf_132 : RG M_X12_saidOf 132 12 49 135 := ⟨115, _, by decide +kernel, rfl, by decide, wd_f12_115, rfl, rfl⟩
theorem r_12_saidOf_135 : RC M_X12_saidOf 135 7 137 := ⟨⟨by decide, by decide⟩, Or.inr (Or.inl ⟨by decide +kernel, by decide, rfl⟩)⟩
theorem r_12_saidOf_137 : RC M_X12_saidOf 137 0 138 := ⟨⟨by decide, by decide⟩, Or.inl ⟨by decide +kernel, rfl⟩⟩
theorem r_12_saidOf_138 : RW M_X12_saidOf 138 .iastore 139 1 := ⟨by decide +kernel, rfl⟩
theorem r_12_saidOf_139 : RA M_X12_saidOf 139 0 140 := Or.inl ⟨0, by decide +kernel, rfl, rfl⟩
theorem r_12_saidOf_140 : RG M_X12_saidOf 140 12 49 143 := ⟨115, _, by decide +kernel, rfl, by decide, wd_f12_115, rfl, rfl⟩
theorem r_12_saidOf_143 : RC M_X12_saidOf 143 8 145 := ⟨⟨by decide, by decide⟩, Or.inr (Or.inl ⟨by decide +kernel, by decide, rfl⟩)⟩
theorem r_12_saidOf_145 : RC M_X12_saidOf 145 0 146 := ⟨⟨by decide, by decide⟩, Or.inl ⟨by decide +kernel, rfl⟩⟩
theorem r_12_saidOf_146 : RW M_X12_saidOf 146 .iastore 147 1 := ⟨by decide +kernel, rfl⟩
theorem r_12_saidOf_147 : RC M_X12_saidOf 147 0 148 := ⟨⟨by decide, by decide⟩, Or.inl ⟨by decide +kernel, rfl⟩⟩
theorem r_12_saidOf_148 : RS M_X12_saidOf 148 6 150 := ⟨by decide, Or.inr ⟨by decide +kernel, rfl⟩⟩
theorem r_12_saidOf_150 : RL M_X12_saidOf 150 6 152 := Or.inr ⟨by decide +kernel, rfl⟩
theorem r_12_saidOf_152 : RA M_X12_saidOf 152 0 153 := Or.inl ⟨0, by decide +kernel, rfl, rfl⟩
theorem r_12_saidOf_153 : RG M_X12_saidOf 153 12 17 156 := ⟨251, _, by decide +kernel, rfl, by decide, wd_f12_251, rfl, rfl⟩
theorem r_12_saidOf_156 : RB M_X12_saidOf 156 (.if_icmp .ge) 258 159 := ⟨102, by decide +kernel, rfl, rfl⟩
theorem r_12_saidOf_258 : RA M_X12_saidOf 258 0 259 := Or.inl ⟨0, by decide +kernel, rfl, rfl⟩
theorem r_12_saidOf_259 : RC M_X12_saidOf 259 160 262 := ⟨⟨by decide, by decide⟩, Or.inr (Or.inr (Or.inl ⟨by decide +kernel, by decide, rfl⟩))⟩
theorem r_12_saidOf_262 : RL M_X12_saidOf 262 1 263 := Or.inl ⟨1, by decide +kernel, rfl, rfl⟩
theorem r_12_saidOf_263 : RW M_X12_saidOf 263 .imul 264 1 := ⟨by decide +kernel, rfl⟩
theorem r_12_saidOf_264 : RA M_X12_saidOf 264 0 265 := Or.inl ⟨0, by decide +kernel, rfl, rfl⟩
theorem r_12_saidOf_265 : RG M_X12_saidOf 265 12 38 268 := ⟨100, _, by decide +kernel, rfl, by decide, wd_f12_100, rfl, rfl⟩
theorem r_12_saidOf_268 : RL M_X12_saidOf 268 1 269 := Or.inl ⟨1, by decide +kernel, rfl, rfl⟩
theorem r_12_saidOf_269 : RW M_X12_saidOf 269 .iaload 270 1 := ⟨by decide +kernel, rfl⟩
theorem r_12_saidOf_270 : RKv M_X12_saidOf M_X12_workOut 270 2 12 273 := ⟨379, by decide +kernel, wd_m12_379, ok_M_X12_workOut, wd_s12_workOut, rfl⟩
theorem r_12_saidOf_273 : RW M_X12_saidOf 273 .ireturn 274 1 := ⟨by decide +kernel, rfl⟩
theorem r_12_saidOf_159 : RA M_X12_saidOf 159 0 160 := Or.inl ⟨0, by decide +kernel, rfl, rfl⟩
theorem r_12_saidOf_160 : RG M_X12_saidOf 160 12 8 163 := ⟨28, _, by decide +kernel, rfl, by decide, wd_f12_28, rfl, rfl⟩
theorem r_12_saidOf_163 : RL M_X12_saidOf 163 2 164 := Or.inl ⟨2, by decide +kernel, rfl, rfl⟩
theorem r_12_saidOf_164 : RW M_X12_saidOf 164 .iaload 165 1 := ⟨by decide +kernel, rfl⟩
theorem r_12_saidOf_165 : RB M_X12_saidOf 165 (.ifCond .ne) 258 168 := ⟨93, by decide +kernel, rfl, rfl⟩
theorem r_12_saidOf_168 : RA M_X12_saidOf 168 0 169 := Or.inl ⟨0, by decide +kernel, rfl, rfl⟩
theorem r_12_saidOf_169 : RG M_X12_saidOf 169 12 8 172 := ⟨28, _, by decide +kernel, rfl, by decide, wd_f12_28, rfl, rfl⟩
theorem r_12_saidOf_172 : RL M_X12_saidOf 172 6 174 := Or.inr ⟨by decide +kernel, rfl⟩
theorem r_12_saidOf_174 : RW M_X12_saidOf 174 .iaload 175 1 := ⟨by decide +kernel, rfl⟩
theorem r_12_saidOf_175 : RB M_X12_saidOf 175 (.ifCond .ne) 198 178 := ⟨23, by decide +kernel, rfl, rfl⟩
theorem r_12_saidOf_198 : RC M_X12_saidOf 198 0 199 := ⟨⟨by decide, by decide⟩, Or.inl ⟨by decide +kernel, rfl⟩⟩
theorem r_12_saidOf_199 : RS M_X12_saidOf 199 7 201 := ⟨by decide, Or.inr ⟨by decide +kernel, rfl⟩⟩
theorem r_12_saidOf_201 : RA M_X12_saidOf 201 0 202 := Or.inl ⟨0, by decide +kernel, rfl, rfl⟩
theorem r_12_saidOf_202 : RG M_X12_saidOf 202 12 49 205 := ⟨115, _, by decide +kernel, rfl, by decide, wd_f12_115, rfl, rfl⟩
theorem r_12_saidOf_205 : RC M_X12_saidOf 205 7 207 := ⟨⟨by decide, by decide⟩, Or.inr (Or.inl ⟨by decide +kernel, by decide, rfl⟩)⟩
theorem r_12_saidOf_207 : RW M_X12_saidOf 207 .dup2 208 1 := ⟨by decide +kernel, rfl⟩
theorem r_12_saidOf_208 : RW M_X12_saidOf 208 .iaload 209 1 := ⟨by decide +kernel, rfl⟩
theorem r_12_saidOf_209 : RL M_X12_saidOf 209 7 211 := Or.inr ⟨by decide +kernel, rfl⟩
theorem r_12_saidOf_211 : RB M_X12_saidOf 211 (.ifCond .eq) 218 214 := ⟨7, by decide +kernel, rfl, rfl⟩
theorem r_12_saidOf_218 : RC M_X12_saidOf 218 0 219 := ⟨⟨by decide, by decide⟩, Or.inl ⟨by decide +kernel, rfl⟩⟩
theorem r_12_saidOf_219 : RW M_X12_saidOf 219 .iadd 220 1 := ⟨by decide +kernel, rfl⟩
theorem r_12_saidOf_220 : RW M_X12_saidOf 220 .iastore 221 1 := ⟨by decide +kernel, rfl⟩
theorem r_12_saidOf_221 : RA M_X12_saidOf 221 0 222 := Or.inl ⟨0, by decide +kernel, rfl, rfl⟩
theorem r_12_saidOf_222 : RG M_X12_saidOf 222 12 49 225 := ⟨115, _, by decide +kernel, rfl, by decide, wd_f12_115, rfl, rfl⟩
theorem r_12_saidOf_225 : RC M_X12_saidOf 225 8 227 := ⟨⟨by decide, by decide⟩, Or.inr (Or.inl ⟨by decide +kernel, by decide, rfl⟩)⟩
theorem r_12_saidOf_227 : RW M_X12_saidOf 227 .dup2 228 1 := ⟨by decide +kernel, rfl⟩
theorem r_12_saidOf_228 : RW M_X12_saidOf 228 .iaload 229 1 := ⟨by decide +kernel, rfl⟩
theorem r_12_saidOf_229 : RL M_X12_saidOf 229 7 231 := Or.inr ⟨by decide +kernel, rfl⟩
theorem r_12_saidOf_231 : RB M_X12_saidOf 231 (.ifCond .eq) 249 234 := ⟨18, by decide +kernel, rfl, rfl⟩
theorem r_12_saidOf_249 : RC M_X12_saidOf 249 0 250 := ⟨⟨by decide, by decide⟩, Or.inl ⟨by decide +kernel, rfl⟩⟩
theorem r_12_saidOf_250 : RW M_X12_saidOf 250 .iadd 251 1 := ⟨by decide +kernel, rfl⟩
theorem r_12_saidOf_251 : RW M_X12_saidOf 251 .iastore 252 1 := ⟨by decide +kernel, rfl⟩
theorem r_12_saidOf_252 : RI M_X12_saidOf 252 6 1 255 := ⟨by decide, by decide +kernel, rfl⟩
theorem r_12_saidOf_255 : RB M_X12_saidOf 255 .goto 150 258 := ⟨(-105), by decide +kernel, rfl, rfl⟩
theorem r_12_saidOf_178 : RA M_X12_saidOf 178 0 179 := Or.inl ⟨0, by decide +kernel, rfl, rfl⟩
theorem r_12_saidOf_179 : RG M_X12_saidOf 179 12 9 182 := ⟨31, _, by decide +kernel, rfl, by decide, wd_f12_31, rfl, rfl⟩
theorem r_12_saidOf_182 : RL M_X12_saidOf 182 6 184 := Or.inr ⟨by decide +kernel, rfl⟩
theorem r_12_saidOf_184 : RW M_X12_saidOf 184 .iaload 185 1 := ⟨by decide +kernel, rfl⟩
theorem r_12_saidOf_185 : RA M_X12_saidOf 185 0 186 := Or.inl ⟨0, by decide +kernel, rfl, rfl⟩
theorem r_12_saidOf_186 : RG M_X12_saidOf 186 12 9 189 := ⟨31, _, by decide +kernel, rfl, by decide, wd_f12_31, rfl, rfl⟩
theorem r_12_saidOf_189 : RL M_X12_saidOf 189 2 190 := Or.inl ⟨2, by decide +kernel, rfl, rfl⟩
theorem r_12_saidOf_190 : RW M_X12_saidOf 190 .iaload 191 1 := ⟨by decide +kernel, rfl⟩
theorem r_12_saidOf_191 : RB M_X12_saidOf 191 (.if_icmp .ne) 198 194 := ⟨7, by decide +kernel, rfl, rfl⟩
theorem r_12_saidOf_194 : RC M_X12_saidOf 194 1 195 := ⟨⟨by decide, by decide⟩, Or.inl ⟨by decide +kernel, rfl⟩⟩
theorem r_12_saidOf_195 : RB M_X12_saidOf 195 .goto 199 198 := ⟨4, by decide +kernel, rfl, rfl⟩
theorem r_12_saidOf_214 : RC M_X12_saidOf 214 1 215 := ⟨⟨by decide, by decide⟩, Or.inl ⟨by decide +kernel, rfl⟩⟩
theorem r_12_saidOf_215 : RB M_X12_saidOf 215 .goto 219 218 := ⟨4, by decide +kernel, rfl, rfl⟩
theorem r_12_saidOf_234 : RA M_X12_saidOf 234 0 235 := Or.inl ⟨0, by decide +kernel, rfl, rfl⟩
theorem r_12_saidOf_235 : RG M_X12_saidOf 235 12 6 238 := ⟨22, _, by decide +kernel, rfl, by decide, wd_f12_22, rfl, rfl⟩
theorem r_12_saidOf_238 : RL M_X12_saidOf 238 6 240 := Or.inr ⟨by decide +kernel, rfl⟩
theorem r_12_saidOf_240 : RW M_X12_saidOf 240 .iaload 241 1 := ⟨by decide +kernel, rfl⟩
theorem r_12_saidOf_241 : RC M_X12_saidOf 241 3 242 := ⟨⟨by decide, by decide⟩, Or.inl ⟨by decide +kernel, rfl⟩⟩
theorem r_12_saidOf_242 : RB M_X12_saidOf 242 (.if_icmp .ne) 249 245 := ⟨7, by decide +kernel, rfl, rfl⟩
theorem r_12_saidOf_245 : RC M_X12_saidOf 245 1 246 := ⟨⟨by decide, by decide⟩, Or.inl ⟨by decide +kernel, rfl⟩⟩
theorem r_12_saidOf_246 : RB M_X12_saidOf 246 .goto 250 249 := ⟨4, by decide +kernel, rfl, rfl⟩
theorem r_12_saidOf_118 : RL M_X12_saidOf 118 4 120 := Or.inr ⟨by decide +kernel, rfl⟩
theorem r_12_saidOf_120 : RB M_X12_saidOf 120 .goto 127 123 := ⟨7, by decide +kernel, rfl, rfl⟩
theorem r_12_saidOf_85 : RL M_X12_saidOf 85 4 87 := Or.inr ⟨by decide +kernel, rfl⟩
theorem r_12_saidOf_87 : RA M_X12_saidOf 87 0 88 := Or.inl ⟨0, by decide +kernel, rfl, rfl⟩
theorem r_12_saidOf_88 : RG M_X12_saidOf 88 12 14 91 := ⟨46, _, by decide +kernel, rfl, by decide, wd_f12_46, rfl, rfl⟩
theorem r_12_saidOf_91 : RL M_X12_saidOf 91 2 92 := Or.inl ⟨2, by decide +kernel, rfl, rfl⟩
theorem r_12_saidOf_92 : RW M_X12_saidOf 92 .iaload 93 1 := ⟨by decide +kernel, rfl⟩
theorem r_12_saidOf_93 : RW M_X12_saidOf 93 .isub 94 1 := ⟨by decide +kernel, rfl⟩
theorem r_12_saidOf_94 : RB M_X12_saidOf 94 .goto 98 97 := ⟨4, by decide +kernel, rfl, rfl⟩
theorem r_12_mayStayOn_0 : RA M_X12_mayStayOn 0 0 1 := Or.inl ⟨0, by decide +kernel, rfl, rfl⟩
theorem r_12_mayStayOn_1 : RA M_X12_mayStayOn 1 0 2 := Or.inl ⟨0, by decide +kernel, rfl, rfl⟩
theorem r_12_mayStayOn_2 : RG M_X12_mayStayOn 2 12 7 5 := ⟨25, _, by decide +kernel, rfl, by decide, wd_f12_25, rfl, rfl⟩
theorem r_12_mayStayOn_5 : RL M_X12_mayStayOn 5 1 6 := Or.inl ⟨1, by decide +kernel, rfl, rfl⟩
theorem r_12_mayStayOn_6 : RW M_X12_mayStayOn 6 .iaload 7 1 := ⟨by decide +kernel, rfl⟩
theorem r_12_mayStayOn_7 : RL M_X12_mayStayOn 7 1 8 := Or.inl ⟨1, by decide +kernel, rfl, rfl⟩
theorem r_12_mayStayOn_8 : RC M_X12_mayStayOn 8 1 9 := ⟨⟨by decide, by decide⟩, Or.inl ⟨by decide +kernel, rfl⟩⟩
theorem r_12_mayStayOn_9 : RL M_X12_mayStayOn 9 3 10 := Or.inl ⟨3, by decide +kernel, rfl, rfl⟩
theorem r_12_mayStayOn_10 : RKv M_X12_mayStayOn M_X12_knownTo 10 4 12 13 := ⟨305, by decide +kernel, wd_m12_305, ok_M_X12_knownTo, wd_s12_knownTo, rfl⟩
theorem r_12_mayStayOn_13 : RB M_X12_mayStayOn 13 (.ifCond .ne) 18 16 := ⟨5, by decide +kernel, rfl, rfl⟩
theorem r_12_mayStayOn_18 : RA M_X12_mayStayOn 18 0 19 := Or.inl ⟨0, by decide +kernel, rfl, rfl⟩
theorem r_12_mayStayOn_19 : RC M_X12_mayStayOn 19 11 21 := ⟨⟨by decide, by decide⟩, Or.inr (Or.inl ⟨by decide +kernel, by decide, rfl⟩)⟩
theorem r_12_mayStayOn_21 : RL M_X12_mayStayOn 21 2 22 := Or.inl ⟨2, by decide +kernel, rfl, rfl⟩
theorem r_12_mayStayOn_22 : RL M_X12_mayStayOn 22 3 23 := Or.inl ⟨3, by decide +kernel, rfl, rfl⟩
theorem r_12_mayStayOn_23 : RKv M_X12_mayStayOn M_X12_force 23 3 12 26 := ⟨382, by decide +kernel, wd_m12_382, ok_M_X12_force, wd_s12_force, rfl⟩
theorem r_12_mayStayOn_26 : RS M_X12_mayStayOn 26 4 28 := ⟨by decide, Or.inr ⟨by decide +kernel, rfl⟩⟩
theorem r_12_mayStayOn_28 : RL M_X12_mayStayOn 28 4 30 := Or.inr ⟨by decide +kernel, rfl⟩
theorem r_12_mayStayOn_30 : RB M_X12_mayStayOn 30 (.ifCond .ge) 43 33 := ⟨13, by decide +kernel, rfl, rfl⟩
theorem r_12_mayStayOn_43 : RL M_X12_mayStayOn 43 4 45 := Or.inr ⟨by decide +kernel, rfl⟩
theorem r_12_mayStayOn_45 : RS M_X12_mayStayOn 45 4 47 := ⟨by decide, Or.inr ⟨by decide +kernel, rfl⟩⟩
theorem r_12_mayStayOn_47 : RL M_X12_mayStayOn 47 4 49 := Or.inr ⟨by decide +kernel, rfl⟩
theorem r_12_mayStayOn_49 : RB M_X12_mayStayOn 49 (.ifCond .lt) 74 52 := ⟨25, by decide +kernel, rfl, rfl⟩
theorem r_12_mayStayOn_74 : RC M_X12_mayStayOn 74 0 75 := ⟨⟨by decide, by decide⟩, Or.inl ⟨by decide +kernel, rfl⟩⟩
theorem r_12_mayStayOn_75 : RW M_X12_mayStayOn 75 .ireturn 76 1 := ⟨by decide +kernel, rfl⟩
theorem r_12_mayStayOn_52 : RA M_X12_mayStayOn 52 0 53 := Or.inl ⟨0, by decide +kernel, rfl, rfl⟩
theorem r_12_mayStayOn_53 : RL M_X12_mayStayOn 53 4 55 := Or.inr ⟨by decide +kernel, rfl⟩
theorem r_12_mayStayOn_55 : RL M_X12_mayStayOn 55 1 56 := Or.inl ⟨1, by decide +kernel, rfl, rfl⟩
theorem r_12_mayStayOn_56 : RA M_X12_mayStayOn 56 0 57 := Or.inl ⟨0, by decide +kernel, rfl, rfl⟩
theorem r_12_mayStayOn_57 : RG M_X12_mayStayOn 57 12 7 60 := ⟨25, _, by decide +kernel, rfl, by decide, wd_f12_25, rfl, rfl⟩
theorem r_12_mayStayOn_60 : RL M_X12_mayStayOn 60 1 61 := Or.inl ⟨1, by decide +kernel, rfl, rfl⟩
theorem r_12_mayStayOn_61 : RW M_X12_mayStayOn 61 .iaload 62 1 := ⟨by decide +kernel, rfl⟩
theorem r_12_mayStayOn_62 : RL M_X12_mayStayOn 62 2 63 := Or.inl ⟨2, by decide +kernel, rfl, rfl⟩
theorem r_12_mayStayOn_63 : RL M_X12_mayStayOn 63 3 64 := Or.inl ⟨3, by decide +kernel, rfl, rfl⟩
theorem r_12_mayStayOn_64 : RKv M_X12_mayStayOn M_X12_saidOf 64 5 12 67 := ⟨386, by decide +kernel, wd_m12_386, ok_M_X12_saidOf, wd_s12_saidOf, rfl⟩
theorem r_12_mayStayOn_67 : RB M_X12_mayStayOn 67 (.ifCond .eq) 74 70 := ⟨7, by decide +kernel, rfl, rfl⟩
theorem r_12_mayStayOn_70 : RC M_X12_mayStayOn 70 1 71 := ⟨⟨by decide, by decide⟩, Or.inl ⟨by decide +kernel, rfl⟩⟩
theorem r_12_mayStayOn_71 : RB M_X12_mayStayOn 71 .goto 75 74 := ⟨4, by decide +kernel, rfl, rfl⟩
theorem r_12_mayStayOn_33 : RA M_X12_mayStayOn 33 0 34 := Or.inl ⟨0, by decide +kernel, rfl, rfl⟩
theorem r_12_mayStayOn_34 : RC M_X12_mayStayOn 34 1 35 := ⟨⟨by decide, by decide⟩, Or.inl ⟨by decide +kernel, rfl⟩⟩
theorem r_12_mayStayOn_35 : RL M_X12_mayStayOn 35 2 36 := Or.inl ⟨2, by decide +kernel, rfl, rfl⟩
theorem r_12_mayStayOn_36 : RL M_X12_mayStayOn 36 3 37 := Or.inl ⟨3, by decide +kernel, rfl, rfl⟩
theorem r_12_mayStayOn_37 : RKv M_X12_mayStayOn M_X12_force 37 3 12 40 := ⟨382, by decide +kernel, wd_m12_382, ok_M_X12_force, wd_s12_force, rfl⟩
theorem r_12_mayStayOn_40 : RB M_X12_mayStayOn 40 .goto 45 43 := ⟨5, by decide +kernel, rfl, rfl⟩
theorem r_12_mayStayOn_16 : RC M_X12_mayStayOn 16 0 17 := ⟨⟨by decide, by decide⟩, Or.inl ⟨by decide +kernel, rfl⟩⟩
theorem r_12_mayStayOn_17 : RW M_X12_mayStayOn 17 .ireturn 18 1 := ⟨by decide +kernel, rfl⟩
theorem r_12_worthOf_0 : RA M_X12_worthOf 0 0 1 := Or.inl ⟨0, by decide +kernel, rfl, rfl⟩
theorem r_12_worthOf_1 : RC M_X12_worthOf 1 10 3 := ⟨⟨by decide, by decide⟩, Or.inr (Or.inl ⟨by decide +kernel, by decide, rfl⟩)⟩
theorem r_12_worthOf_3 : RC M_X12_worthOf 3 2 4 := ⟨⟨by decide, by decide⟩, Or.inl ⟨by decide +kernel, rfl⟩⟩
theorem r_12_worthOf_4 : RL M_X12_worthOf 4 2 5 := Or.inl ⟨2, by decide +kernel, rfl, rfl⟩
theorem r_12_worthOf_5 : RW M_X12_worthOf 5 .iadd 6 1 := ⟨by decide +kernel, rfl⟩
theorem r_12_worthOf_6 : RW M_X12_worthOf 6 .imul 7 1 := ⟨by decide +kernel, rfl⟩
theorem r_12_worthOf_7 : RC M_X12_worthOf 7 2 8 := ⟨⟨by decide, by decide⟩, Or.inl ⟨by decide +kernel, rfl⟩⟩
theorem r_12_worthOf_8 : RW M_X12_worthOf 8 .iadd 9 1 := ⟨by decide +kernel, rfl⟩
theorem r_12_worthOf_9 : RL M_X12_worthOf 9 3 10 := Or.inl ⟨3, by decide +kernel, rfl, rfl⟩
theorem r_12_worthOf_10 : RL M_X12_worthOf 10 4 12 := Or.inr ⟨by decide +kernel, rfl⟩
theorem r_12_worthOf_12 : RKv M_X12_worthOf M_X12_force 12 3 12 15 := ⟨382, by decide +kernel, wd_m12_382, ok_M_X12_force, wd_s12_force, rfl⟩
theorem r_12_worthOf_15 : RS M_X12_worthOf 15 5 17 := ⟨by decide, Or.inr ⟨by decide +kernel, rfl⟩⟩
theorem r_12_worthOf_17 : RL M_X12_worthOf 17 5 19 := Or.inr ⟨by decide +kernel, rfl⟩
theorem r_12_worthOf_19 : RB M_X12_worthOf 19 (.ifCond .ge) 24 22 := ⟨5, by decide +kernel, rfl, rfl⟩
theorem r_12_worthOf_24 : RA M_X12_worthOf 24 0 25 := Or.inl ⟨0, by decide +kernel, rfl, rfl⟩
theorem r_12_worthOf_25 : RL M_X12_worthOf 25 5 27 := Or.inr ⟨by decide +kernel, rfl⟩
theorem r_12_worthOf_27 : RL M_X12_worthOf 27 1 28 := Or.inl ⟨1, by decide +kernel, rfl, rfl⟩
theorem r_12_worthOf_28 : RL M_X12_worthOf 28 2 29 := Or.inl ⟨2, by decide +kernel, rfl, rfl⟩
theorem r_12_worthOf_29 : RL M_X12_worthOf 29 3 30 := Or.inl ⟨3, by decide +kernel, rfl, rfl⟩
theorem r_12_worthOf_30 : RL M_X12_worthOf 30 4 32 := Or.inr ⟨by decide +kernel, rfl⟩
theorem r_12_worthOf_32 : RKv M_X12_worthOf M_X12_saidOf 32 5 12 35 := ⟨386, by decide +kernel, wd_m12_386, ok_M_X12_saidOf, wd_s12_saidOf, rfl⟩
theorem r_12_worthOf_35 : RS M_X12_worthOf 35 6 37 := ⟨by decide, Or.inr ⟨by decide +kernel, rfl⟩⟩
theorem r_12_worthOf_37 : RL M_X12_worthOf 37 6 39 := Or.inr ⟨by decide +kernel, rfl⟩
theorem r_12_worthOf_39 : RB M_X12_worthOf 39 (.ifCond .ge) 46 42 := ⟨7, by decide +kernel, rfl, rfl⟩
theorem r_12_worthOf_46 : RL M_X12_worthOf 46 6 48 := Or.inr ⟨by decide +kernel, rfl⟩
theorem r_12_worthOf_48 : RC M_X12_worthOf 48 999 51 := ⟨⟨by decide, by decide⟩, Or.inr (Or.inr (Or.inl ⟨by decide +kernel, by decide, rfl⟩))⟩
theorem r_12_worthOf_51 : RB M_X12_worthOf 51 (.if_icmp .le) 60 54 := ⟨9, by decide +kernel, rfl, rfl⟩
theorem r_12_worthOf_60 : RL M_X12_worthOf 60 6 62 := Or.inr ⟨by decide +kernel, rfl⟩
theorem r_12_worthOf_62 : RW M_X12_worthOf 62 .ireturn 63 1 := ⟨by decide +kernel, rfl⟩
theorem r_12_worthOf_54 : RC M_X12_worthOf 54 999 57 := ⟨⟨by decide, by decide⟩, Or.inr (Or.inr (Or.inl ⟨by decide +kernel, by decide, rfl⟩))⟩
theorem r_12_worthOf_57 : RB M_X12_worthOf 57 .goto 62 60 := ⟨5, by decide +kernel, rfl, rfl⟩
theorem r_12_worthOf_42 : RC M_X12_worthOf 42 0 43 := ⟨⟨by decide, by decide⟩, Or.inl ⟨by decide +kernel, rfl⟩⟩
theorem r_12_worthOf_43 : RB M_X12_worthOf 43 .goto 62 46 := ⟨19, by decide +kernel, rfl, rfl⟩
theorem r_12_worthOf_22 : RC M_X12_worthOf 22 1 23 := ⟨⟨by decide, by decide⟩, Or.inl ⟨by decide +kernel, rfl⟩⟩
theorem r_12_worthOf_23 : RW M_X12_worthOf 23 .ireturn 24 1 := ⟨by decide +kernel, rfl⟩
theorem r_12_mayStay_0 : RA M_X12_mayStay 0 0 1 := Or.inl ⟨0, by decide +kernel, rfl, rfl⟩
theorem r_12_mayStay_1 : RL M_X12_mayStay 1 1 2 := Or.inl ⟨1, by decide +kernel, rfl, rfl⟩
theorem r_12_mayStay_2 : RKv M_X12_mayStay M_X12_isPerson 2 1 12 5 := ⟨278, by decide +kernel, wd_m12_278, ok_M_X12_isPerson, wd_s12_isPerson, rfl⟩
theorem r_12_mayStay_5 : RB M_X12_mayStay 5 (.ifCond .eq) 22 8 := ⟨17, by decide +kernel, rfl, rfl⟩
theorem r_12_mayStay_22 : RC M_X12_mayStay 22 (-1) 23 := ⟨⟨by decide, by decide⟩, Or.inl ⟨by decide +kernel, rfl⟩⟩
theorem r_12_mayStay_23 : RW M_X12_mayStay 23 .ireturn 24 1 := ⟨by decide +kernel, rfl⟩
theorem r_12_mayStay_8 : RL M_X12_mayStay 8 2 9 := Or.inl ⟨2, by decide +kernel, rfl, rfl⟩
theorem r_12_mayStay_9 : RKs M_X12_mayStay M_X12_isDay 9 1 12 := ⟨302, by decide +kernel, Or.inl wd_m12_302, ok_M_X12_isDay, rfl⟩
theorem r_12_mayStay_12 : RB M_X12_mayStay 12 (.ifCond .eq) 22 15 := ⟨10, by decide +kernel, rfl, rfl⟩
theorem r_12_mayStay_15 : RL M_X12_mayStay 15 3 16 := Or.inl ⟨3, by decide +kernel, rfl, rfl⟩
theorem r_12_mayStay_16 : RKs M_X12_mayStay M_X12_isDay 16 1 19 := ⟨302, by decide +kernel, Or.inl wd_m12_302, ok_M_X12_isDay, rfl⟩
theorem r_12_mayStay_19 : RB M_X12_mayStay 19 (.ifCond .ne) 24 22 := ⟨5, by decide +kernel, rfl, rfl⟩
theorem r_12_mayStay_24 : RA M_X12_mayStay 24 0 25 := Or.inl ⟨0, by decide +kernel, rfl, rfl⟩
theorem r_12_mayStay_25 : RL M_X12_mayStay 25 1 26 := Or.inl ⟨1, by decide +kernel, rfl, rfl⟩
theorem r_12_mayStay_26 : RL M_X12_mayStay 26 2 27 := Or.inl ⟨2, by decide +kernel, rfl, rfl⟩
theorem r_12_mayStay_27 : RL M_X12_mayStay 27 3 28 := Or.inl ⟨3, by decide +kernel, rfl, rfl⟩
theorem r_12_mayStay_28 : RKv M_X12_mayStay M_X12_mayStayOn 28 3 12 31 := ⟨390, by decide +kernel, wd_m12_390, ok_M_X12_mayStayOn, wd_s12_mayStayOn, rfl⟩
theorem r_12_mayStay_31 : RB M_X12_mayStay 31 (.ifCond .eq) 38 34 := ⟨7, by decide +kernel, rfl, rfl⟩
theorem r_12_mayStay_38 : RC M_X12_mayStay 38 0 39 := ⟨⟨by decide, by decide⟩, Or.inl ⟨by decide +kernel, rfl⟩⟩
theorem r_12_mayStay_39 : RW M_X12_mayStay 39 .ireturn 40 1 := ⟨by decide +kernel, rfl⟩
theorem r_12_mayStay_34 : RC M_X12_mayStay 34 1 35 := ⟨⟨by decide, by decide⟩, Or.inl ⟨by decide +kernel, rfl⟩⟩
theorem r_12_mayStay_35 : RB M_X12_mayStay 35 .goto 39 38 := ⟨4, by decide +kernel, rfl, rfl⟩
theorem r_12_worth_0 : RA M_X12_worth 0 0 1 := Or.inl ⟨0, by decide +kernel, rfl, rfl⟩
theorem r_12_worth_1 : RL M_X12_worth 1 1 2 := Or.inl ⟨1, by decide +kernel, rfl, rfl⟩
theorem r_12_worth_2 : RKv M_X12_worth M_X12_isPerson 2 1 12 5 := ⟨278, by decide +kernel, wd_m12_278, ok_M_X12_isPerson, wd_s12_isPerson, rfl⟩
theorem r_12_worth_5 : RB M_X12_worth 5 (.ifCond .eq) 42 8 := ⟨37, by decide +kernel, rfl, rfl⟩
theorem r_12_worth_42 : RC M_X12_worth 42 (-1) 43 := ⟨⟨by decide, by decide⟩, Or.inl ⟨by decide +kernel, rfl⟩⟩
theorem r_12_worth_43 : RW M_X12_worth 43 .ireturn 44 1 := ⟨by decide +kernel, rfl⟩
theorem r_12_worth_8 : RL M_X12_worth 8 2 9 := Or.inl ⟨2, by decide +kernel, rfl, rfl⟩
theorem r_12_worth_9 : RKs M_X12_worth M_X12_isSide 9 1 12 := ⟨254, by decide +kernel, Or.inl wd_m12_254, ok_M_X12_isSide, rfl⟩
theorem r_12_worth_12 : RB M_X12_worth 12 (.ifCond .eq) 42 15 := ⟨30, by decide +kernel, rfl, rfl⟩
theorem r_12_worth_15 : RL M_X12_worth 15 3 16 := Or.inl ⟨3, by decide +kernel, rfl, rfl⟩
theorem r_12_worth_16 : RKs M_X12_worth M_X12_isDay 16 1 19 := ⟨302, by decide +kernel, Or.inl wd_m12_302, ok_M_X12_isDay, rfl⟩
theorem r_12_worth_19 : RB M_X12_worth 19 (.ifCond .eq) 42 22 := ⟨23, by decide +kernel, rfl, rfl⟩
theorem r_12_worth_22 : RL M_X12_worth 22 4 24 := Or.inr ⟨by decide +kernel, rfl⟩
theorem r_12_worth_24 : RKs M_X12_worth M_X12_isDay 24 1 27 := ⟨302, by decide +kernel, Or.inl wd_m12_302, ok_M_X12_isDay, rfl⟩
theorem r_12_worth_27 : RB M_X12_worth 27 (.ifCond .eq) 42 30 := ⟨15, by decide +kernel, rfl, rfl⟩
theorem r_12_worth_30 : RA M_X12_worth 30 0 31 := Or.inl ⟨0, by decide +kernel, rfl, rfl⟩
theorem r_12_worth_31 : RL M_X12_worth 31 1 32 := Or.inl ⟨1, by decide +kernel, rfl, rfl⟩
theorem r_12_worth_32 : RL M_X12_worth 32 2 33 := Or.inl ⟨2, by decide +kernel, rfl, rfl⟩
theorem r_12_worth_33 : RL M_X12_worth 33 3 34 := Or.inl ⟨3, by decide +kernel, rfl, rfl⟩
theorem r_12_worth_34 : RL M_X12_worth 34 4 36 := Or.inr ⟨by decide +kernel, rfl⟩
theorem r_12_worth_36 : RKv M_X12_worth M_X12_worthOf 36 4 12 39 := ⟨393, by decide +kernel, wd_m12_393, ok_M_X12_worthOf, wd_s12_worthOf, rfl⟩
theorem r_12_worth_39 : RB M_X12_worth 39 .goto 43 42 := ⟨4, by decide +kernel, rfl, rfl⟩
theorem r_12_owed_0 : RA M_X12_owed 0 0 1 := Or.inl ⟨0, by decide +kernel, rfl, rfl⟩
theorem r_12_owed_1 : RL M_X12_owed 1 1 2 := Or.inl ⟨1, by decide +kernel, rfl, rfl⟩
theorem r_12_owed_2 : RKv M_X12_owed M_X12_isPerson 2 1 12 5 := ⟨278, by decide +kernel, wd_m12_278, ok_M_X12_isPerson, wd_s12_isPerson, rfl⟩
theorem r_12_owed_5 : RB M_X12_owed 5 (.ifCond .eq) 22 8 := ⟨17, by decide +kernel, rfl, rfl⟩
theorem r_12_owed_22 : RC M_X12_owed 22 (-1) 23 := ⟨⟨by decide, by decide⟩, Or.inl ⟨by decide +kernel, rfl⟩⟩
theorem r_12_owed_23 : RW M_X12_owed 23 .ireturn 24 1 := ⟨by decide +kernel, rfl⟩
theorem r_12_owed_8 : RL M_X12_owed 8 2 9 := Or.inl ⟨2, by decide +kernel, rfl, rfl⟩
theorem r_12_owed_9 : RKs M_X12_owed M_X12_isDay 9 1 12 := ⟨302, by decide +kernel, Or.inl wd_m12_302, ok_M_X12_isDay, rfl⟩
theorem r_12_owed_12 : RB M_X12_owed 12 (.ifCond .eq) 22 15 := ⟨10, by decide +kernel, rfl, rfl⟩
theorem r_12_owed_15 : RL M_X12_owed 15 3 16 := Or.inl ⟨3, by decide +kernel, rfl, rfl⟩
theorem r_12_owed_16 : RKs M_X12_owed M_X12_isDay 16 1 19 := ⟨302, by decide +kernel, Or.inl wd_m12_302, ok_M_X12_isDay, rfl⟩
theorem r_12_owed_19 : RB M_X12_owed 19 (.ifCond .ne) 24 22 := ⟨5, by decide +kernel, rfl, rfl⟩
theorem r_12_owed_24 : RC M_X12_owed 24 0 25 := ⟨⟨by decide, by decide⟩, Or.inl ⟨by decide +kernel, rfl⟩⟩
theorem r_12_owed_25 : RS M_X12_owed 25 4 27 := ⟨by decide, Or.inr ⟨by decide +kernel, rfl⟩⟩
theorem r_12_owed_27 : RL M_X12_owed 27 4 29 := Or.inr ⟨by decide +kernel, rfl⟩
theorem r_12_owed_29 : RC M_X12_owed 29 2 30 := ⟨⟨by decide, by decide⟩, Or.inl ⟨by decide +kernel, rfl⟩⟩
theorem r_12_owed_30 : RB M_X12_owed 30 (.if_icmp .ge) 88 33 := ⟨58, by decide +kernel, rfl, rfl⟩
theorem r_12_owed_33 : RA M_X12_owed 33 0 34 := Or.inl ⟨0, by decide +kernel, rfl, rfl⟩
theorem r_12_owed_34 : RC M_X12_owed 34 10 36 := ⟨⟨by decide, by decide⟩, Or.inr (Or.inl ⟨by decide +kernel, by decide, rfl⟩)⟩
theorem r_12_owed_36 : RL M_X12_owed 36 4 38 := Or.inr ⟨by decide +kernel, rfl⟩
theorem r_12_owed_38 : RW M_X12_owed 38 .imul 39 1 := ⟨by decide +kernel, rfl⟩
theorem r_12_owed_39 : RL M_X12_owed 39 2 40 := Or.inl ⟨2, by decide +kernel, rfl, rfl⟩
theorem r_12_owed_40 : RL M_X12_owed 40 3 41 := Or.inl ⟨3, by decide +kernel, rfl, rfl⟩
theorem r_12_owed_41 : RKv M_X12_owed M_X12_force 41 3 12 44 := ⟨382, by decide +kernel, wd_m12_382, ok_M_X12_force, wd_s12_force, rfl⟩
theorem r_12_owed_44 : RS M_X12_owed 44 5 46 := ⟨by decide, Or.inr ⟨by decide +kernel, rfl⟩⟩
theorem r_12_owed_46 : RL M_X12_owed 46 5 48 := Or.inr ⟨by decide +kernel, rfl⟩
theorem r_12_owed_48 : RB M_X12_owed 48 (.ifCond .lt) 82 51 := ⟨34, by decide +kernel, rfl, rfl⟩
theorem r_12_owed_82 : RI M_X12_owed 82 4 1 85 := ⟨by decide, by decide +kernel, rfl⟩
theorem r_12_owed_85 : RB M_X12_owed 85 .goto 27 88 := ⟨(-58), by decide +kernel, rfl, rfl⟩
theorem r_12_owed_88 : RC M_X12_owed 88 0 89 := ⟨⟨by decide, by decide⟩, Or.inl ⟨by decide +kernel, rfl⟩⟩
theorem r_12_owed_89 : RW M_X12_owed 89 .ireturn 90 1 := ⟨by decide +kernel, rfl⟩
theorem r_12_owed_51 : RA M_X12_owed 51 0 52 := Or.inl ⟨0, by decide +kernel, rfl, rfl⟩
theorem r_12_owed_52 : RL M_X12_owed 52 5 54 := Or.inr ⟨by decide +kernel, rfl⟩
theorem r_12_owed_54 : RL M_X12_owed 54 1 55 := Or.inl ⟨1, by decide +kernel, rfl, rfl⟩
theorem r_12_owed_55 : RA M_X12_owed 55 0 56 := Or.inl ⟨0, by decide +kernel, rfl, rfl⟩
theorem r_12_owed_56 : RG M_X12_owed 56 12 7 59 := ⟨25, _, by decide +kernel, rfl, by decide, wd_f12_25, rfl, rfl⟩
theorem r_12_owed_59 : RL M_X12_owed 59 1 60 := Or.inl ⟨1, by decide +kernel, rfl, rfl⟩
theorem r_12_owed_60 : RW M_X12_owed 60 .iaload 61 1 := ⟨by decide +kernel, rfl⟩
theorem r_12_owed_61 : RL M_X12_owed 61 2 62 := Or.inl ⟨2, by decide +kernel, rfl, rfl⟩
theorem r_12_owed_62 : RL M_X12_owed 62 3 63 := Or.inl ⟨3, by decide +kernel, rfl, rfl⟩
theorem r_12_owed_63 : RKv M_X12_owed M_X12_saidOf 63 5 12 66 := ⟨386, by decide +kernel, wd_m12_386, ok_M_X12_saidOf, wd_s12_saidOf, rfl⟩
theorem r_12_owed_66 : RB M_X12_owed 66 (.ifCond .eq) 82 69 := ⟨16, by decide +kernel, rfl, rfl⟩
theorem r_12_owed_69 : RC M_X12_owed 69 100 71 := ⟨⟨by decide, by decide⟩, Or.inr (Or.inl ⟨by decide +kernel, by decide, rfl⟩)⟩
theorem r_12_owed_71 : RL M_X12_owed 71 4 73 := Or.inr ⟨by decide +kernel, rfl⟩
theorem r_12_owed_73 : RC M_X12_owed 73 1 74 := ⟨⟨by decide, by decide⟩, Or.inl ⟨by decide +kernel, rfl⟩⟩
theorem r_12_owed_74 : RW M_X12_owed 74 .iadd 75 1 := ⟨by decide +kernel, rfl⟩
theorem r_12_owed_75 : RW M_X12_owed 75 .imul 76 1 := ⟨by decide +kernel, rfl⟩
theorem r_12_owed_76 : RA M_X12_owed 76 0 77 := Or.inl ⟨0, by decide +kernel, rfl, rfl⟩
theorem r_12_owed_77 : RG M_X12_owed 77 12 50 80 := ⟨370, _, by decide +kernel, rfl, by decide, wd_f12_370, rfl, rfl⟩
theorem r_12_owed_80 : RW M_X12_owed 80 .iadd 81 1 := ⟨by decide +kernel, rfl⟩
theorem r_12_owed_81 : RW M_X12_owed 81 .ireturn 82 1 := ⟨by decide +kernel, rfl⟩
theorem r_12_says_0 : RL M_X12_says 0 1 1 := Or.inl ⟨1, by decide +kernel, rfl, rfl⟩
theorem r_12_says_1 : RB M_X12_says 1 (.ifCond .lt) 58 4 := ⟨57, by decide +kernel, rfl, rfl⟩
theorem r_12_says_58 : RC M_X12_says 58 (-2000000000) 61 := ⟨⟨by decide, by decide⟩, Or.inr (Or.inr (Or.inr (Or.inr ⟨289, by decide +kernel, wd_c12_289, rfl⟩)))⟩
theorem r_12_says_61 : RW M_X12_says 61 .ireturn 62 1 := ⟨by decide +kernel, rfl⟩
theorem r_12_says_4 : RL M_X12_says 4 1 5 := Or.inl ⟨1, by decide +kernel, rfl, rfl⟩
theorem r_12_says_5 : RA M_X12_says 5 0 6 := Or.inl ⟨0, by decide +kernel, rfl, rfl⟩
theorem r_12_says_6 : RG M_X12_says 6 12 42 9 := ⟨376, _, by decide +kernel, rfl, by decide, wd_f12_376, rfl, rfl⟩
theorem r_12_says_9 : RB M_X12_says 9 (.if_icmp .ge) 58 12 := ⟨49, by decide +kernel, rfl, rfl⟩
theorem r_12_says_12 : RA M_X12_says 12 0 13 := Or.inl ⟨0, by decide +kernel, rfl, rfl⟩
theorem r_12_says_13 : RL M_X12_says 13 2 14 := Or.inl ⟨2, by decide +kernel, rfl, rfl⟩
theorem r_12_says_14 : RKv M_X12_says M_X12_isPerson 14 1 12 17 := ⟨278, by decide +kernel, wd_m12_278, ok_M_X12_isPerson, wd_s12_isPerson, rfl⟩
theorem r_12_says_17 : RB M_X12_says 17 (.ifCond .eq) 58 20 := ⟨41, by decide +kernel, rfl, rfl⟩
theorem r_12_says_20 : RL M_X12_says 20 3 21 := Or.inl ⟨3, by decide +kernel, rfl, rfl⟩
theorem r_12_says_21 : RB M_X12_says 21 (.ifCond .lt) 58 24 := ⟨37, by decide +kernel, rfl, rfl⟩
theorem r_12_says_24 : RL M_X12_says 24 3 25 := Or.inl ⟨3, by decide +kernel, rfl, rfl⟩
theorem r_12_says_25 : RC M_X12_says 25 10 27 := ⟨⟨by decide, by decide⟩, Or.inr (Or.inl ⟨by decide +kernel, by decide, rfl⟩)⟩
theorem r_12_says_27 : RW M_X12_says 27 .idiv 28 1 := ⟨by decide +kernel, rfl⟩
theorem r_12_says_28 : RKs M_X12_says M_X12_isSide 28 1 31 := ⟨254, by decide +kernel, Or.inl wd_m12_254, ok_M_X12_isSide, rfl⟩
theorem r_12_says_31 : RB M_X12_says 31 (.ifCond .eq) 58 34 := ⟨27, by decide +kernel, rfl, rfl⟩
theorem r_12_says_34 : RL M_X12_says 34 3 35 := Or.inl ⟨3, by decide +kernel, rfl, rfl⟩
theorem r_12_says_35 : RC M_X12_says 35 10 37 := ⟨⟨by decide, by decide⟩, Or.inr (Or.inl ⟨by decide +kernel, by decide, rfl⟩)⟩
theorem r_12_says_37 : RW M_X12_says 37 .irem 38 1 := ⟨by decide +kernel, rfl⟩
theorem r_12_says_38 : RC M_X12_says 38 1 39 := ⟨⟨by decide, by decide⟩, Or.inl ⟨by decide +kernel, rfl⟩⟩
theorem r_12_says_39 : RB M_X12_says 39 (.if_icmp .gt) 58 42 := ⟨19, by decide +kernel, rfl, rfl⟩
theorem r_12_says_42 : RL M_X12_says 42 4 44 := Or.inr ⟨by decide +kernel, rfl⟩
theorem r_12_says_44 : RKs M_X12_says M_X12_isDay 44 1 47 := ⟨302, by decide +kernel, Or.inl wd_m12_302, ok_M_X12_isDay, rfl⟩
theorem r_12_says_47 : RB M_X12_says 47 (.ifCond .eq) 58 50 := ⟨11, by decide +kernel, rfl, rfl⟩
theorem r_12_says_50 : RL M_X12_says 50 5 52 := Or.inr ⟨by decide +kernel, rfl⟩
theorem r_12_says_52 : RKs M_X12_says M_X12_isDay 52 1 55 := ⟨302, by decide +kernel, Or.inl wd_m12_302, ok_M_X12_isDay, rfl⟩
theorem r_12_says_55 : RB M_X12_says 55 (.ifCond .ne) 62 58 := ⟨7, by decide +kernel, rfl, rfl⟩
theorem r_12_says_62 : RA M_X12_says 62 0 63 := Or.inl ⟨0, by decide +kernel, rfl, rfl⟩
theorem r_12_says_63 : RL M_X12_says 63 1 64 := Or.inl ⟨1, by decide +kernel, rfl, rfl⟩
theorem r_12_says_64 : RL M_X12_says 64 2 65 := Or.inl ⟨2, by decide +kernel, rfl, rfl⟩
theorem r_12_says_65 : RL M_X12_says 65 3 66 := Or.inl ⟨3, by decide +kernel, rfl, rfl⟩
theorem r_12_says_66 : RC M_X12_says 66 10 68 := ⟨⟨by decide, by decide⟩, Or.inr (Or.inl ⟨by decide +kernel, by decide, rfl⟩)⟩
theorem r_12_says_68 : RW M_X12_says 68 .idiv 69 1 := ⟨by decide +kernel, rfl⟩
theorem r_12_says_69 : RL M_X12_says 69 4 71 := Or.inr ⟨by decide +kernel, rfl⟩
theorem r_12_says_71 : RL M_X12_says 71 5 73 := Or.inr ⟨by decide +kernel, rfl⟩
theorem r_12_says_73 : RKv M_X12_says M_X12_saidOf 73 5 12 76 := ⟨386, by decide +kernel, wd_m12_386, ok_M_X12_saidOf, wd_s12_saidOf, rfl⟩
theorem r_12_says_76 : RS M_X12_says 76 6 78 := ⟨by decide, Or.inr ⟨by decide +kernel, rfl⟩⟩
theorem r_12_says_78 : RL M_X12_says 78 3 79 := Or.inl ⟨3, by decide +kernel, rfl, rfl⟩
theorem r_12_says_79 : RC M_X12_says 79 10 81 := ⟨⟨by decide, by decide⟩, Or.inr (Or.inl ⟨by decide +kernel, by decide, rfl⟩)⟩
theorem r_12_says_81 : RW M_X12_says 81 .irem 82 1 := ⟨by decide +kernel, rfl⟩
theorem r_12_says_82 : RB M_X12_says 82 (.ifCond .ne) 90 85 := ⟨8, by decide +kernel, rfl, rfl⟩
theorem r_12_says_90 : RA M_X12_says 90 0 91 := Or.inl ⟨0, by decide +kernel, rfl, rfl⟩
theorem r_12_says_91 : RG M_X12_says 91 12 50 94 := ⟨370, _, by decide +kernel, rfl, by decide, wd_f12_370, rfl, rfl⟩
theorem r_12_says_94 : RW M_X12_says 94 .ireturn 95 1 := ⟨by decide +kernel, rfl⟩
theorem r_12_says_85 : RL M_X12_says 85 6 87 := Or.inr ⟨by decide +kernel, rfl⟩
theorem r_12_says_87 : RB M_X12_says 87 .goto 94 90 := ⟨7, by decide +kernel, rfl, rfl⟩
set_option maxRecDepth 10000 in
theorem sp_X12_saidOf {l : Launch} {w : Wo} {d : Nat} {G : PH} {P : Option PV → PH → Prop} {t p z d0 k : Int} {SD : Int → Int → Int → Int → Int → Int × Int} {FC : Int → Int → Int → Int} {KC : Int → Int → Int → Int → Int} (hsz : 0 ≤ (gF G 12 0 17) ∧ (gF G 12 0 17) ≤ 150) (hf : 0 ≤ (gF G 12 0 27) ∧ (gF G 12 0 27) ≤ 300) (hlt : 0 ≤ (gF G 12 0 29) ∧ (gF G 12 0 29) ≤ 60) (hofs : ∀ i, 0 ≤ i → i < (gF G 12 0 27) → 0 ≤ (gA G 219 0 (i)) ∧ (gA G 219 0 (i)) < 150) (hsent : ∀ l, 0 ≤ l → l < (gF G 12 0 29) → 0 ≤ (gA G 223 0 (l)) ∧ (gA G 223 0 (l)) ≤ 600) (hpr : 0 ≤ (gF G 12 0 34) ∧ (gF G 12 0 34) ≤ 40) (htx : 0 ≤ (gF G 12 0 42) ∧ (gF G 12 0 42) ≤ 20) (hTX : txM G) (hSD : sdM G = SD) (hFC : fcM G = FC) (hKC : kM G = KC) (hpv : 0 ≤ p ∧ p < (gF G 12 0 17)) (hcm : 0 ≤ (gA G 212 0 (p)) ∧ (gA G 212 0 (p)) ≤ 600) (hz : 0 ≤ z ∧ z ≤ 1) (hd0 : 0 ≤ d0 ∧ d0 ≤ 600) (ht : 0 ≤ t ∧ t < (gF G 12 0 42)) (hP : ∀ q : RQm, q.2.2.2.2.2.2 = (SD t z p d0 k).1 → P (some (vI ((SD t z p d0 k).2))) (rstM G q)) : PW l w M_X12_saidOf (d + 96) 0 [some (vR 12 (0)), some (vI (t)), some (vI (p)), some (vI (z)), some (vI (d0)), some (vI (k)), none, none] [] G P := by
  refine pw_aload r_12_saidOf_0 rfl ?_
  refine pw_getR r_12_saidOf_1 fs_12_49 (by decide) ?_
  refine pw_const r_12_saidOf_4 ?_
  refine pw_aload r_12_saidOf_5 rfl ?_
  refine pw_getR r_12_saidOf_6 fs_12_6 (by decide) ?_
  refine pw_iload r_12_saidOf_9 rfl ?_
  refine pw_iald r_12_saidOf_10 sh204 (by omega) (by omega) ?_
  refine pw_iast r_12_saidOf_11 sh235 (by omega) (by omega) ?_
  refine pw_aload r_12_saidOf_12 rfl ?_
  refine pw_getR r_12_saidOf_13 fs_12_49 (by decide) ?_
  refine pw_const r_12_saidOf_16 ?_
  refine pw_aload r_12_saidOf_17 rfl ?_
  refine pw_iload r_12_saidOf_18 rfl ?_
  refine pw_iload r_12_saidOf_19 rfl ?_
  refine pw_const r_12_saidOf_20 ?_
  refine pw_iload r_12_saidOf_21 rfl ?_
  refine pw_callV (av := [vI (z), vI (p), vI (0), vI (k)]) (st := [vI (1), vR 235 (0)]) (ls0 := [some (vR 12 (0)), some (vI (z)), some (vI (p)), some (vI (0)), some (vI (k)), none, none]) r_12_saidOf_23 rfl rfl rfl (Nat.le_refl _) ?_
  refine sp_X12_knownTo (by first | assumption | exact hf | omega) (by first | assumption | exact hlt | omega) (by first | assumption | exact hofs | omega) (by first | assumption | exact hsent | omega) ?_
  refine pw_top (b := lastOf (fun i => ((gA G 219 (0) (i)) = p ∧ (gA G 220 (0) (i)) = 0 ∧ ((((gA G 205 (0) ((gA G 219 (0) (i)))) = z ↔ (gA G 220 (0) (i)) ≠ 2) ∧ (gA G 222 (0) (i)) ≤ k) ∨ (¬ ((gA G 205 (0) ((gA G 219 (0) (i)))) = z ↔ (gA G 220 (0) (i)) ≠ 2) ∧ cmF (gF G 12 (0) 29) (gA G 223 0) (gA G 222 (0) (i)) 100000 ≤ k)))) (gA G 221 0) 0 (gF G 12 (0) 27)) (by first | rfl | simp (disch := decide) [gF_sF, gF_sA, gF_uA, gF_sD, gA_sF, gA_sA, gA_uA, gA_sD, gD_sF, gD_sA, gD_uA, gD_sD]) ?_
  refine pw_top (b := kM G z p 0 k) (rfl) ?_
  refine pw_iast r_12_saidOf_26 sh235 (by omega) (by omega) ?_
  refine pw_aload r_12_saidOf_27 rfl ?_
  refine pw_getR r_12_saidOf_28 fs_12_49 (by decide) ?_
  refine pw_const r_12_saidOf_31 ?_
  refine pw_aload r_12_saidOf_32 rfl ?_
  refine pw_iload r_12_saidOf_33 rfl ?_
  refine pw_iload r_12_saidOf_34 rfl ?_
  refine pw_const r_12_saidOf_35 ?_
  refine pw_iload r_12_saidOf_36 rfl ?_
  refine pw_callV (av := [vI (z), vI (p), vI (1), vI (k)]) (st := [vI (2), vR 235 (0)]) (ls0 := [some (vR 12 (0)), some (vI (z)), some (vI (p)), some (vI (1)), some (vI (k)), none, none]) r_12_saidOf_38 rfl rfl rfl (Nat.le_refl _) ?_
  refine sp_X12_knownTo (by first | assumption | exact hf | omega) (by first | assumption | exact hlt | omega) (by first | assumption | exact hofs | omega) (by first | assumption | exact hsent | omega) ?_
  refine pw_top (b := lastOf (fun i => ((gA G 219 (0) (i)) = p ∧ (gA G 220 (0) (i)) = 1 ∧ ((((gA G 205 (0) ((gA G 219 (0) (i)))) = z ↔ (gA G 220 (0) (i)) ≠ 2) ∧ (gA G 222 (0) (i)) ≤ k) ∨ (¬ ((gA G 205 (0) ((gA G 219 (0) (i)))) = z ↔ (gA G 220 (0) (i)) ≠ 2) ∧ cmF (gF G 12 (0) 29) (gA G 223 0) (gA G 222 (0) (i)) 100000 ≤ k)))) (gA G 221 0) 0 (gF G 12 (0) 27)) (by first | rfl | simp (disch := decide) [gF_sF, gF_sA, gF_uA, gF_sD, gA_sF, gA_sA, gA_uA, gA_sD, gD_sF, gD_sA, gD_uA, gD_sD]) ?_
  refine pw_top (b := kM G z p 1 k) (rfl) ?_
  refine pw_iast r_12_saidOf_41 sh235 (by omega) (by omega) ?_
  refine pw_aload r_12_saidOf_42 rfl ?_
  refine pw_getR r_12_saidOf_43 fs_12_49 (by decide) ?_
  refine pw_const r_12_saidOf_46 ?_
  refine pw_aload r_12_saidOf_47 rfl ?_
  refine pw_iload r_12_saidOf_48 rfl ?_
  refine pw_iload r_12_saidOf_49 rfl ?_
  refine pw_const r_12_saidOf_50 ?_
  refine pw_iload r_12_saidOf_51 rfl ?_
  refine pw_callV (av := [vI (z), vI (p), vI (2), vI (k)]) (st := [vI (3), vR 235 (0)]) (ls0 := [some (vR 12 (0)), some (vI (z)), some (vI (p)), some (vI (2)), some (vI (k)), none, none]) r_12_saidOf_53 rfl rfl rfl (Nat.le_refl _) ?_
  refine sp_X12_knownTo (by first | assumption | exact hf | omega) (by first | assumption | exact hlt | omega) (by first | assumption | exact hofs | omega) (by first | assumption | exact hsent | omega) ?_
  refine pw_top (b := lastOf (fun i => ((gA G 219 (0) (i)) = p ∧ (gA G 220 (0) (i)) = 2 ∧ ((((gA G 205 (0) ((gA G 219 (0) (i)))) = z ↔ (gA G 220 (0) (i)) ≠ 2) ∧ (gA G 222 (0) (i)) ≤ k) ∨ (¬ ((gA G 205 (0) ((gA G 219 (0) (i)))) = z ↔ (gA G 220 (0) (i)) ≠ 2) ∧ cmF (gF G 12 (0) 29) (gA G 223 0) (gA G 222 (0) (i)) 100000 ≤ k)))) (gA G 221 0) 0 (gF G 12 (0) 27)) (by first | rfl | simp (disch := decide) [gF_sF, gF_sA, gF_uA, gF_sD, gA_sF, gA_sA, gA_uA, gA_sD, gD_sF, gD_sA, gD_uA, gD_sD]) ?_
  refine pw_top (b := kM G z p 2 k) (rfl) ?_
  refine pw_iast r_12_saidOf_56 sh235 (by omega) (by omega) ?_
  refine pw_aload r_12_saidOf_57 rfl ?_
  refine pw_getR r_12_saidOf_58 fs_12_49 (by decide) ?_
  refine pw_const r_12_saidOf_61 ?_
  refine pw_aload r_12_saidOf_62 rfl ?_
  refine pw_getR r_12_saidOf_63 fs_12_10 (by decide) ?_
  refine pw_iload r_12_saidOf_66 rfl ?_
  refine pw_ialdv (v := gA G 208 (0) (p)) r_12_saidOf_67 sh208 (by omega) (by omega) (by first | rfl | simp [gF_sF, gF_sA, gF_uA, gF_sD, gA_sF, gA_sA, gA_uA, gA_sD, gD_sF, gD_sA, gD_uA, gD_sD]) ?_
  refine pw_iast r_12_saidOf_68 sh235 (by omega) (by omega) ?_
  refine pw_aload r_12_saidOf_69 rfl ?_
  refine pw_getR r_12_saidOf_70 fs_12_49 (by decide) ?_
  refine pw_const r_12_saidOf_73 ?_
  refine pw_iload r_12_saidOf_74 rfl ?_
  refine pw_aload r_12_saidOf_76 rfl ?_
  refine pw_getR r_12_saidOf_77 fs_12_14 (by decide) ?_
  refine pw_iload r_12_saidOf_80 rfl ?_
  refine pw_ialdv (v := gA G 212 (0) (p)) r_12_saidOf_81 sh212 (by omega) (by omega) (by first | rfl | simp [gF_sF, gF_sA, gF_uA, gF_sD, gA_sF, gA_sA, gA_uA, gA_sD, gD_sF, gD_sA, gD_uA, gD_sD]) ?_
  refine pw_icmp_le r_12_saidOf_82 (fun h82 => ?_) (fun h82 => ?_)
  · skip
    refine pw_const r_12_saidOf_97 ?_
    refine pw_top (b := max 0 (d0 - (gA G 212 0 (p)))) (by omega) ?_
    refine pw_iast r_12_saidOf_98 sh235 (by omega) (by omega) ?_
    refine pw_aload r_12_saidOf_99 rfl ?_
    refine pw_getR r_12_saidOf_100 fs_12_49 (by decide) ?_
    refine pw_const r_12_saidOf_103 ?_
    refine pw_aload r_12_saidOf_105 rfl ?_
    refine pw_const r_12_saidOf_106 ?_
    refine pw_iload r_12_saidOf_107 rfl ?_
    refine pw_isub r_12_saidOf_108 (by omega) ?_
    refine pw_iload r_12_saidOf_109 rfl ?_
    refine pw_aload r_12_saidOf_111 rfl ?_
    refine pw_getIv (v := gF G 12 (0) 0) r_12_saidOf_112 fs_12_0 (by decide) (by first | rfl | simp [gF_sF, gF_sA, gF_uA, gF_sD, gA_sF, gA_sA, gA_uA, gA_sD, gD_sF, gD_sA, gD_uA, gD_sD]) ?_
    refine pw_icmp_ge r_12_saidOf_115 (fun h115 => ?_) (fun h115 => ?_)
    · skip
      refine pw_aload r_12_saidOf_123 rfl ?_
      refine pw_getIv (v := gF G 12 (0) 0) r_12_saidOf_124 fs_12_0 (by decide) (by first | rfl | simp [gF_sF, gF_sA, gF_uA, gF_sD, gA_sF, gA_sA, gA_uA, gA_sD, gD_sF, gD_sA, gD_uA, gD_sD]) ?_
      refine pw_callV (av := [vI ((1 - z)), vI (gF G 12 (0) 0)]) (st := [vI (6), vR 235 (0)]) (ls0 := [some (vR 12 (0)), some (vI ((1 - z))), some (vI (gF G 12 (0) 0)), none, none]) r_12_saidOf_127 rfl rfl rfl (Nat.le_refl _) ?_
      refine sp_X12_brokenOf (by first | assumption | exact hsz | omega) (by first | assumption | exact hpr | omega) ?_
      refine pw_top (b := cnt (fun i => (gA G 224 (0) (i)) = (1 - z) ∧ ((gA G 227 (0) (i)) < (gF G 12 (0) 0) ∧ cnt (fun i1 => ((gA G 206 (0) (i1)) = 5 ∧ (gA G 205 (0) (i1)) = (gA G 224 (0) (i))) ∧ (gA G 226 (0) (i)) ≤ (gA G 213 (0) (i1)) ∧ (gA G 213 (0) (i1)) ≤ (gA G 227 (0) (i))) (gF G 12 (0) 17) < (gA G 225 (0) (i)))) (gF G 12 (0) 34)) (by first | rfl | simp (disch := decide) [gF_sF, gF_sA, gF_uA, gF_sD, gA_sF, gA_sA, gA_uA, gA_sD, gD_sF, gD_sA, gD_uA, gD_sD]) ?_
      refine pw_top (b := brM G (1 - z) (min d0 (gF G 12 0 0))) ((show brM G (1 - z) ((gF G 12 0 0)) = brM G (1 - z) (min d0 (gF G 12 0 0)) from congrArg (brM G (1 - z)) (by omega))) ?_
      refine pw_iast r_12_saidOf_130 sh235 (by omega) (by omega) ?_
      refine pw_aload r_12_saidOf_131 rfl ?_
      refine pw_getR r_12_saidOf_132 fs_12_49 (by decide) ?_
      refine pw_const r_12_saidOf_135 ?_
      refine pw_const r_12_saidOf_137 ?_
      refine pw_iast r_12_saidOf_138 sh235 (by omega) (by omega) ?_
      refine pw_aload r_12_saidOf_139 rfl ?_
      refine pw_getR r_12_saidOf_140 fs_12_49 (by decide) ?_
      refine pw_const r_12_saidOf_143 ?_
      refine pw_const r_12_saidOf_145 ?_
      refine pw_iast r_12_saidOf_146 sh235 (by omega) (by omega) ?_
      refine pw_const r_12_saidOf_147 ?_
      refine pw_istore (ls' := [some (vR 12 (0)), some (vI (t)), some (vI (p)), some (vI (z)), some (vI (d0)), some (vI (k)), some (vI (0)), none]) r_12_saidOf_148 rfl rfl ?_
      have L150 : ∀ (nF : Nat) (i : Int) (F : Int → Int), (hi : 0 ≤ i ∧ i ≤ (gF G 12 0 17)) → (hs : (gA G 206 0 (p)) ≠ 0 → i = 0) → (hF : ∀ j, 0 ≤ j → j < 7 → F j = valM G z p d0 k j) → (h7 : F 7 = ciM G (gA G 207 0 (p)) 0 i) → (h8 : F 8 = ciM G (gA G 207 0 (p)) 1 i) → ((gF G 12 0 17) - i).toNat < nF → PW l w M_X12_saidOf (d + 96) 150 [some (vR 12 (0)), some (vI (t)), some (vI (p)), some (vI (z)), some (vI (d0)), some (vI (k)), some (vI (i)), none] [] (uA G 235 (0) (F)) P := by
        intro nF
        induction nF with
        | zero => intro _ _ _ _ _ _ _ hM; exact absurd hM (Nat.not_lt_zero _)
        | succ nF ih150 =>
          intro i F hi hs hF h7 h8 hM150
          have hc7 : 0 ≤ ciM G (gA G 207 0 (p)) 0 i ∧ ciM G (gA G 207 0 (p)) 0 i ≤ i := cnt_le _ hi.1
          have hc8 : 0 ≤ ciM G (gA G 207 0 (p)) 1 i ∧ ciM G (gA G 207 0 (p)) 1 i ≤ i := cnt_le _ hi.1
          refine pw_iload r_12_saidOf_150 rfl ?_
          refine pw_aload r_12_saidOf_152 rfl ?_
          refine pw_getIv (v := gF G 12 (0) 17) r_12_saidOf_153 fs_12_17 (by decide) (by first | rfl | simp [gF_sF, gF_sA, gF_uA, gF_sD, gA_sF, gA_sA, gA_uA, gA_sD, gD_sF, gD_sA, gD_uA, gD_sD]) ?_
          refine pw_icmp_ge r_12_saidOf_156 (fun h156 => ?_) (fun h156 => ?_)
          · skip
            have h7v : F 7 = valM G z p d0 k 7 := by
              rw [h7]
              show ciM G (gA G 207 0 (p)) 0 i = if (gA G 206 0 (p)) = 0 then ciM G (gA G 207 0 (p)) 0 (gF G 12 0 17) else 0
              by_cases hst : (gA G 206 0 (p)) = 0
              · rw [if_pos hst, show i = (gF G 12 0 17) by omega]
              · rw [if_neg hst, show i = 0 from hs hst]; rfl
            have h8v : F 8 = valM G z p d0 k 8 := by
              rw [h8]
              show ciM G (gA G 207 0 (p)) 1 i = if (gA G 206 0 (p)) = 0 then ciM G (gA G 207 0 (p)) 1 (gF G 12 0 17) else 0
              by_cases hst : (gA G 206 0 (p)) = 0
              · rw [if_pos hst, show i = (gF G 12 0 17) by omega]
              · rw [if_neg hst, show i = 0 from hs hst]; rfl
            refine pw_aload r_12_saidOf_258 rfl ?_
            refine pw_const r_12_saidOf_259 ?_
            refine pw_iload r_12_saidOf_262 rfl ?_
            refine pw_imul r_12_saidOf_263 (by omega) ?_
            refine pw_aload r_12_saidOf_264 rfl ?_
            refine pw_getR r_12_saidOf_265 fs_12_38 (by decide) ?_
            refine pw_iload r_12_saidOf_268 rfl ?_
            refine pw_ialdv (v := gA G 230 (0) (t)) r_12_saidOf_269 sh230 (by omega) (by omega) (by first | rfl | simp [gF_sF, gF_sA, gF_uA, gF_sD, gA_sF, gA_sA, gA_uA, gA_sD, gD_sF, gD_sA, gD_uA, gD_sD]) ?_
            refine pw_callV (av := [vI ((160 * t)), vI (gA G 230 (0) (t))]) (st := []) (ls0 := [some (vR 12 (0)), some (vI ((160 * t))), some (vI (gA G 230 (0) (t))), none, none, none, none, none]) r_12_saidOf_270 rfl rfl rfl (Nat.le_refl _) ?_
            refine sp_X12_workOut (bs := (160 * t)) (n := (gA G 230 0 (t))) (b := (fun j => (gA G 229 0 (160 * t + j)))) (e := (valM G z p d0 k)) (by intro j _ _; rw [if_neg (by omega)]; rfl) (by omega) (by intro j j0 j9; show F j = _; rcases (show j < 7 ∨ j = 7 ∨ j = 8 by omega) with e | e | e; exact hF j j0 e; rw [e]; exact h7v; rw [e]; exact h8v) ((hTX t ht.1 ht.2).1) ?_ ?_
            · skip
              exact fun f1 v1 x1 l1 q1 _ _ => absurd (EvT_det q1 (hTX t ht.1 ht.2).2) (fun h => by cases h)
            · skip
              intro L1 q1
              refine pw_iret r_12_saidOf_273 rfl (Nat.le_refl _) ⟨rfl, ?_⟩
              have eL : L1 = lnM G t := Sum.inr.inj (EvT_det q1 (hTX t ht.1 ht.2).2)
              have hS9 : SD t z p d0 k = pick (valM G z p d0 k) (lnM G t) 0 := by rw [← hSD]; rfl
              rw [eL, ← hS9]
              exact hP (_, _, _, _, _, _, (SD t z p d0 k).1) rfl
          · skip
            refine pw_aload r_12_saidOf_159 rfl ?_
            refine pw_getR r_12_saidOf_160 fs_12_8 (by decide) ?_
            refine pw_iload r_12_saidOf_163 rfl ?_
            refine pw_ialdv (v := gA G 206 (0) (p)) r_12_saidOf_164 sh206 (by omega) (by omega) (by first | rfl | simp [gF_sF, gF_sA, gF_uA, gF_sD, gA_sF, gA_sA, gA_uA, gA_sD, gD_sF, gD_sA, gD_uA, gD_sD]) ?_
            refine pw_if_ne r_12_saidOf_165 (fun h165 => ?_) (fun h165 => ?_)
            · skip
              have h7v : F 7 = valM G z p d0 k 7 := by
                rw [h7]
                show ciM G (gA G 207 0 (p)) 0 i = if (gA G 206 0 (p)) = 0 then ciM G (gA G 207 0 (p)) 0 (gF G 12 0 17) else 0
                by_cases hst : (gA G 206 0 (p)) = 0
                · rw [if_pos hst, show i = (gF G 12 0 17) by omega]
                · rw [if_neg hst, show i = 0 from hs hst]; rfl
              have h8v : F 8 = valM G z p d0 k 8 := by
                rw [h8]
                show ciM G (gA G 207 0 (p)) 1 i = if (gA G 206 0 (p)) = 0 then ciM G (gA G 207 0 (p)) 1 (gF G 12 0 17) else 0
                by_cases hst : (gA G 206 0 (p)) = 0
                · rw [if_pos hst, show i = (gF G 12 0 17) by omega]
                · rw [if_neg hst, show i = 0 from hs hst]; rfl
              refine pw_aload r_12_saidOf_258 rfl ?_
              refine pw_const r_12_saidOf_259 ?_
              refine pw_iload r_12_saidOf_262 rfl ?_
              refine pw_imul r_12_saidOf_263 (by omega) ?_
              refine pw_aload r_12_saidOf_264 rfl ?_
              refine pw_getR r_12_saidOf_265 fs_12_38 (by decide) ?_
              refine pw_iload r_12_saidOf_268 rfl ?_
              refine pw_ialdv (v := gA G 230 (0) (t)) r_12_saidOf_269 sh230 (by omega) (by omega) (by first | rfl | simp [gF_sF, gF_sA, gF_uA, gF_sD, gA_sF, gA_sA, gA_uA, gA_sD, gD_sF, gD_sA, gD_uA, gD_sD]) ?_
              refine pw_callV (av := [vI ((160 * t)), vI (gA G 230 (0) (t))]) (st := []) (ls0 := [some (vR 12 (0)), some (vI ((160 * t))), some (vI (gA G 230 (0) (t))), none, none, none, none, none]) r_12_saidOf_270 rfl rfl rfl (Nat.le_refl _) ?_
              refine sp_X12_workOut (bs := (160 * t)) (n := (gA G 230 0 (t))) (b := (fun j => (gA G 229 0 (160 * t + j)))) (e := (valM G z p d0 k)) (by intro j _ _; rw [if_neg (by omega)]; rfl) (by omega) (by intro j j0 j9; show F j = _; rcases (show j < 7 ∨ j = 7 ∨ j = 8 by omega) with e | e | e; exact hF j j0 e; rw [e]; exact h7v; rw [e]; exact h8v) ((hTX t ht.1 ht.2).1) ?_ ?_
              · skip
                exact fun f1 v1 x1 l1 q1 _ _ => absurd (EvT_det q1 (hTX t ht.1 ht.2).2) (fun h => by cases h)
              · skip
                intro L1 q1
                refine pw_iret r_12_saidOf_273 rfl (Nat.le_refl _) ⟨rfl, ?_⟩
                have eL : L1 = lnM G t := Sum.inr.inj (EvT_det q1 (hTX t ht.1 ht.2).2)
                have hS9 : SD t z p d0 k = pick (valM G z p d0 k) (lnM G t) 0 := by rw [← hSD]; rfl
                rw [eL, ← hS9]
                exact hP (_, _, _, _, _, _, (SD t z p d0 k).1) rfl
            · skip
              refine pw_aload r_12_saidOf_168 rfl ?_
              refine pw_getR r_12_saidOf_169 fs_12_8 (by decide) ?_
              refine pw_iload r_12_saidOf_172 rfl ?_
              refine pw_ialdv (v := gA G 206 (0) (i)) r_12_saidOf_174 sh206 (by omega) (by omega) (by first | rfl | simp [gF_sF, gF_sA, gF_uA, gF_sD, gA_sF, gA_sA, gA_uA, gA_sD, gD_sF, gD_sA, gD_uA, gD_sD]) ?_
              refine pw_if_ne r_12_saidOf_175 (fun h175 => ?_) (fun h175 => ?_)
              · skip
                refine pw_const r_12_saidOf_198 ?_
                refine pw_istore (ls' := [some (vR 12 (0)), some (vI (t)), some (vI (p)), some (vI (z)), some (vI (d0)), some (vI (k)), some (vI (i)), some (vI (0))]) r_12_saidOf_199 rfl rfl ?_
                refine pw_aload r_12_saidOf_201 rfl ?_
                refine pw_getR r_12_saidOf_202 fs_12_49 (by decide) ?_
                refine pw_const r_12_saidOf_205 ?_
                refine pw_dup2 r_12_saidOf_207 rfl rfl ?_
                refine pw_ialdv (v := (F) (7)) r_12_saidOf_208 sh235 (by omega) (by omega) (by first | rfl | simp [gF_sF, gF_sA, gF_uA, gF_sD, gA_sF, gA_sA, gA_uA, gA_sD, gD_sF, gD_sA, gD_uA, gD_sD]) ?_
                refine pw_iload r_12_saidOf_209 rfl ?_
                refine pw_if_eq r_12_saidOf_211 (fun h211 => ?_) (fun h211 => absurd h211 (by decide))
                refine pw_const r_12_saidOf_218 ?_
                refine pw_iadd r_12_saidOf_219 (by omega) ?_
                refine pw_iast r_12_saidOf_220 sh235 (by omega) (by omega) ?_
                refine pw_aload r_12_saidOf_221 rfl ?_
                refine pw_getR r_12_saidOf_222 fs_12_49 (by decide) ?_
                refine pw_const r_12_saidOf_225 ?_
                refine pw_dup2 r_12_saidOf_227 rfl rfl ?_
                refine pw_ialdv (v := (F) (8)) r_12_saidOf_228 sh235 (by omega) (by omega) (by first | rfl | simp [gF_sF, gF_sA, gF_uA, gF_sD, gA_sF, gA_sA, gA_uA, gA_sD, gD_sF, gD_sA, gD_uA, gD_sD]) ?_
                refine pw_iload r_12_saidOf_229 rfl ?_
                refine pw_if_eq r_12_saidOf_231 (fun h231 => ?_) (fun h231 => absurd h231 (by decide))
                refine pw_const r_12_saidOf_249 ?_
                refine pw_iadd r_12_saidOf_250 (by omega) ?_
                refine pw_iast r_12_saidOf_251 sh235 (by omega) (by omega) ?_
                refine pw_iinc (b := 0) (ls' := [some (vR 12 (0)), some (vI (t)), some (vI (p)), some (vI (z)), some (vI (d0)), some (vI (k)), some (vI ((i + 1))), some (vI (0))]) r_12_saidOf_252 rfl rfl (by omega) rfl ?_
                refine pw_goto r_12_saidOf_255 ?_
                refine pw_weakL (ls' := [some (vR 12 (0)), some (vI (t)), some (vI (p)), some (vI (z)), some (vI (d0)), some (vI (k)), some (vI ((i + 1))), none]) (⟨rfl, ⟨rfl, ⟨rfl, ⟨rfl, ⟨rfl, ⟨rfl, ⟨rfl, trivial⟩⟩⟩⟩⟩⟩⟩) ?_
                refine pw_eqG (G' := uA G 235 (0) ((upA (upA F 7 (((F) (7)) + 0)) 8 (((F) (8)) + 0)))) (by rw [sA_uA, sA_uA]) ?_
                exact ih150 ((i + 1)) ((upA (upA F 7 (((F) (7)) + 0)) 8 (((F) (8)) + 0))) (by first | assumption | omega) (fun z => absurd z (by omega)) (fun j j0 j7 => by rw [upA_ne (by omega), upA_ne (by omega)]; exact hF j j0 j7) (by rw [upA_ne (by decide), upA_same]; rw [h7]; first | exact (cnt_t hi.1 (show (((gA G 206 0 (i)) = 0 ∧ (gA G 207 0 (i)) = (gA G 207 0 (p))) ∧ ((0 : Int) = 0 ∨ (gA G 204 0 (i)) = 3)) by omega)).symm | (rw [Int.add_zero]; exact (cnt_f hi.1 (show ¬ (((gA G 206 0 (i)) = 0 ∧ (gA G 207 0 (i)) = (gA G 207 0 (p))) ∧ ((0 : Int) = 0 ∨ (gA G 204 0 (i)) = 3)) by omega)).symm)) (by rw [upA_same]; rw [h8]; first | exact (cnt_t hi.1 (show (((gA G 206 0 (i)) = 0 ∧ (gA G 207 0 (i)) = (gA G 207 0 (p))) ∧ ((1 : Int) = 0 ∨ (gA G 204 0 (i)) = 3)) by omega)).symm | (rw [Int.add_zero]; exact (cnt_f hi.1 (show ¬ (((gA G 206 0 (i)) = 0 ∧ (gA G 207 0 (i)) = (gA G 207 0 (p))) ∧ ((1 : Int) = 0 ∨ (gA G 204 0 (i)) = 3)) by omega)).symm)) (by omega)
              · skip
                refine pw_aload r_12_saidOf_178 rfl ?_
                refine pw_getR r_12_saidOf_179 fs_12_9 (by decide) ?_
                refine pw_iload r_12_saidOf_182 rfl ?_
                refine pw_ialdv (v := gA G 207 (0) (i)) r_12_saidOf_184 sh207 (by omega) (by omega) (by first | rfl | simp [gF_sF, gF_sA, gF_uA, gF_sD, gA_sF, gA_sA, gA_uA, gA_sD, gD_sF, gD_sA, gD_uA, gD_sD]) ?_
                refine pw_aload r_12_saidOf_185 rfl ?_
                refine pw_getR r_12_saidOf_186 fs_12_9 (by decide) ?_
                refine pw_iload r_12_saidOf_189 rfl ?_
                refine pw_ialdv (v := gA G 207 (0) (p)) r_12_saidOf_190 sh207 (by omega) (by omega) (by first | rfl | simp [gF_sF, gF_sA, gF_uA, gF_sD, gA_sF, gA_sA, gA_uA, gA_sD, gD_sF, gD_sA, gD_uA, gD_sD]) ?_
                refine pw_icmp_ne r_12_saidOf_191 (fun h191 => ?_) (fun h191 => ?_)
                · skip
                  refine pw_const r_12_saidOf_198 ?_
                  refine pw_istore (ls' := [some (vR 12 (0)), some (vI (t)), some (vI (p)), some (vI (z)), some (vI (d0)), some (vI (k)), some (vI (i)), some (vI (0))]) r_12_saidOf_199 rfl rfl ?_
                  refine pw_aload r_12_saidOf_201 rfl ?_
                  refine pw_getR r_12_saidOf_202 fs_12_49 (by decide) ?_
                  refine pw_const r_12_saidOf_205 ?_
                  refine pw_dup2 r_12_saidOf_207 rfl rfl ?_
                  refine pw_ialdv (v := (F) (7)) r_12_saidOf_208 sh235 (by omega) (by omega) (by first | rfl | simp [gF_sF, gF_sA, gF_uA, gF_sD, gA_sF, gA_sA, gA_uA, gA_sD, gD_sF, gD_sA, gD_uA, gD_sD]) ?_
                  refine pw_iload r_12_saidOf_209 rfl ?_
                  refine pw_if_eq r_12_saidOf_211 (fun h211 => ?_) (fun h211 => absurd h211 (by decide))
                  refine pw_const r_12_saidOf_218 ?_
                  refine pw_iadd r_12_saidOf_219 (by omega) ?_
                  refine pw_iast r_12_saidOf_220 sh235 (by omega) (by omega) ?_
                  refine pw_aload r_12_saidOf_221 rfl ?_
                  refine pw_getR r_12_saidOf_222 fs_12_49 (by decide) ?_
                  refine pw_const r_12_saidOf_225 ?_
                  refine pw_dup2 r_12_saidOf_227 rfl rfl ?_
                  refine pw_ialdv (v := (F) (8)) r_12_saidOf_228 sh235 (by omega) (by omega) (by first | rfl | simp [gF_sF, gF_sA, gF_uA, gF_sD, gA_sF, gA_sA, gA_uA, gA_sD, gD_sF, gD_sA, gD_uA, gD_sD]) ?_
                  refine pw_iload r_12_saidOf_229 rfl ?_
                  refine pw_if_eq r_12_saidOf_231 (fun h231 => ?_) (fun h231 => absurd h231 (by decide))
                  refine pw_const r_12_saidOf_249 ?_
                  refine pw_iadd r_12_saidOf_250 (by omega) ?_
                  refine pw_iast r_12_saidOf_251 sh235 (by omega) (by omega) ?_
                  refine pw_iinc (b := 0) (ls' := [some (vR 12 (0)), some (vI (t)), some (vI (p)), some (vI (z)), some (vI (d0)), some (vI (k)), some (vI ((i + 1))), some (vI (0))]) r_12_saidOf_252 rfl rfl (by omega) rfl ?_
                  refine pw_goto r_12_saidOf_255 ?_
                  refine pw_weakL (ls' := [some (vR 12 (0)), some (vI (t)), some (vI (p)), some (vI (z)), some (vI (d0)), some (vI (k)), some (vI ((i + 1))), none]) (⟨rfl, ⟨rfl, ⟨rfl, ⟨rfl, ⟨rfl, ⟨rfl, ⟨rfl, trivial⟩⟩⟩⟩⟩⟩⟩) ?_
                  refine pw_eqG (G' := uA G 235 (0) ((upA (upA F 7 (((F) (7)) + 0)) 8 (((F) (8)) + 0)))) (by rw [sA_uA, sA_uA]) ?_
                  exact ih150 ((i + 1)) ((upA (upA F 7 (((F) (7)) + 0)) 8 (((F) (8)) + 0))) (by first | assumption | omega) (fun z => absurd z (by omega)) (fun j j0 j7 => by rw [upA_ne (by omega), upA_ne (by omega)]; exact hF j j0 j7) (by rw [upA_ne (by decide), upA_same]; rw [h7]; first | exact (cnt_t hi.1 (show (((gA G 206 0 (i)) = 0 ∧ (gA G 207 0 (i)) = (gA G 207 0 (p))) ∧ ((0 : Int) = 0 ∨ (gA G 204 0 (i)) = 3)) by omega)).symm | (rw [Int.add_zero]; exact (cnt_f hi.1 (show ¬ (((gA G 206 0 (i)) = 0 ∧ (gA G 207 0 (i)) = (gA G 207 0 (p))) ∧ ((0 : Int) = 0 ∨ (gA G 204 0 (i)) = 3)) by omega)).symm)) (by rw [upA_same]; rw [h8]; first | exact (cnt_t hi.1 (show (((gA G 206 0 (i)) = 0 ∧ (gA G 207 0 (i)) = (gA G 207 0 (p))) ∧ ((1 : Int) = 0 ∨ (gA G 204 0 (i)) = 3)) by omega)).symm | (rw [Int.add_zero]; exact (cnt_f hi.1 (show ¬ (((gA G 206 0 (i)) = 0 ∧ (gA G 207 0 (i)) = (gA G 207 0 (p))) ∧ ((1 : Int) = 0 ∨ (gA G 204 0 (i)) = 3)) by omega)).symm)) (by omega)
                · skip
                  refine pw_const r_12_saidOf_194 ?_
                  refine pw_goto r_12_saidOf_195 ?_
                  refine pw_istore (ls' := [some (vR 12 (0)), some (vI (t)), some (vI (p)), some (vI (z)), some (vI (d0)), some (vI (k)), some (vI (i)), some (vI (1))]) r_12_saidOf_199 rfl rfl ?_
                  refine pw_aload r_12_saidOf_201 rfl ?_
                  refine pw_getR r_12_saidOf_202 fs_12_49 (by decide) ?_
                  refine pw_const r_12_saidOf_205 ?_
                  refine pw_dup2 r_12_saidOf_207 rfl rfl ?_
                  refine pw_ialdv (v := (F) (7)) r_12_saidOf_208 sh235 (by omega) (by omega) (by first | rfl | simp [gF_sF, gF_sA, gF_uA, gF_sD, gA_sF, gA_sA, gA_uA, gA_sD, gD_sF, gD_sA, gD_uA, gD_sD]) ?_
                  refine pw_iload r_12_saidOf_209 rfl ?_
                  refine pw_if_eq r_12_saidOf_211 (fun h211 => absurd h211 (by decide)) (fun h211 => ?_)
                  refine pw_const r_12_saidOf_214 ?_
                  refine pw_goto r_12_saidOf_215 ?_
                  refine pw_iadd r_12_saidOf_219 (by omega) ?_
                  refine pw_iast r_12_saidOf_220 sh235 (by omega) (by omega) ?_
                  refine pw_aload r_12_saidOf_221 rfl ?_
                  refine pw_getR r_12_saidOf_222 fs_12_49 (by decide) ?_
                  refine pw_const r_12_saidOf_225 ?_
                  refine pw_dup2 r_12_saidOf_227 rfl rfl ?_
                  refine pw_ialdv (v := (F) (8)) r_12_saidOf_228 sh235 (by omega) (by omega) (by first | rfl | simp [gF_sF, gF_sA, gF_uA, gF_sD, gA_sF, gA_sA, gA_uA, gA_sD, gD_sF, gD_sA, gD_uA, gD_sD]) ?_
                  refine pw_iload r_12_saidOf_229 rfl ?_
                  refine pw_if_eq r_12_saidOf_231 (fun h231 => absurd h231 (by decide)) (fun h231 => ?_)
                  refine pw_aload r_12_saidOf_234 rfl ?_
                  refine pw_getR r_12_saidOf_235 fs_12_6 (by decide) ?_
                  refine pw_iload r_12_saidOf_238 rfl ?_
                  refine pw_ialdv (v := gA G 204 (0) (i)) r_12_saidOf_240 sh204 (by omega) (by omega) (by first | rfl | simp [gF_sF, gF_sA, gF_uA, gF_sD, gA_sF, gA_sA, gA_uA, gA_sD, gD_sF, gD_sA, gD_uA, gD_sD]) ?_
                  refine pw_const r_12_saidOf_241 ?_
                  refine pw_icmp_ne r_12_saidOf_242 (fun h242 => ?_) (fun h242 => ?_)
                  · skip
                    refine pw_const r_12_saidOf_249 ?_
                    refine pw_iadd r_12_saidOf_250 (by omega) ?_
                    refine pw_iast r_12_saidOf_251 sh235 (by omega) (by omega) ?_
                    refine pw_iinc (b := 0) (ls' := [some (vR 12 (0)), some (vI (t)), some (vI (p)), some (vI (z)), some (vI (d0)), some (vI (k)), some (vI ((i + 1))), some (vI (1))]) r_12_saidOf_252 rfl rfl (by omega) rfl ?_
                    refine pw_goto r_12_saidOf_255 ?_
                    refine pw_weakL (ls' := [some (vR 12 (0)), some (vI (t)), some (vI (p)), some (vI (z)), some (vI (d0)), some (vI (k)), some (vI ((i + 1))), none]) (⟨rfl, ⟨rfl, ⟨rfl, ⟨rfl, ⟨rfl, ⟨rfl, ⟨rfl, trivial⟩⟩⟩⟩⟩⟩⟩) ?_
                    refine pw_eqG (G' := uA G 235 (0) ((upA (upA F 7 (((F) (7)) + 1)) 8 (((F) (8)) + 0)))) (by rw [sA_uA, sA_uA]) ?_
                    exact ih150 ((i + 1)) ((upA (upA F 7 (((F) (7)) + 1)) 8 (((F) (8)) + 0))) (by first | assumption | omega) (fun z => absurd z (by omega)) (fun j j0 j7 => by rw [upA_ne (by omega), upA_ne (by omega)]; exact hF j j0 j7) (by rw [upA_ne (by decide), upA_same]; rw [h7]; first | exact (cnt_t hi.1 (show (((gA G 206 0 (i)) = 0 ∧ (gA G 207 0 (i)) = (gA G 207 0 (p))) ∧ ((0 : Int) = 0 ∨ (gA G 204 0 (i)) = 3)) by omega)).symm | (rw [Int.add_zero]; exact (cnt_f hi.1 (show ¬ (((gA G 206 0 (i)) = 0 ∧ (gA G 207 0 (i)) = (gA G 207 0 (p))) ∧ ((0 : Int) = 0 ∨ (gA G 204 0 (i)) = 3)) by omega)).symm)) (by rw [upA_same]; rw [h8]; first | exact (cnt_t hi.1 (show (((gA G 206 0 (i)) = 0 ∧ (gA G 207 0 (i)) = (gA G 207 0 (p))) ∧ ((1 : Int) = 0 ∨ (gA G 204 0 (i)) = 3)) by omega)).symm | (rw [Int.add_zero]; exact (cnt_f hi.1 (show ¬ (((gA G 206 0 (i)) = 0 ∧ (gA G 207 0 (i)) = (gA G 207 0 (p))) ∧ ((1 : Int) = 0 ∨ (gA G 204 0 (i)) = 3)) by omega)).symm)) (by omega)
                  · skip
                    refine pw_const r_12_saidOf_245 ?_
                    refine pw_goto r_12_saidOf_246 ?_
                    refine pw_iadd r_12_saidOf_250 (by omega) ?_
                    refine pw_iast r_12_saidOf_251 sh235 (by omega) (by omega) ?_
                    refine pw_iinc (b := 0) (ls' := [some (vR 12 (0)), some (vI (t)), some (vI (p)), some (vI (z)), some (vI (d0)), some (vI (k)), some (vI ((i + 1))), some (vI (1))]) r_12_saidOf_252 rfl rfl (by omega) rfl ?_
                    refine pw_goto r_12_saidOf_255 ?_
                    refine pw_weakL (ls' := [some (vR 12 (0)), some (vI (t)), some (vI (p)), some (vI (z)), some (vI (d0)), some (vI (k)), some (vI ((i + 1))), none]) (⟨rfl, ⟨rfl, ⟨rfl, ⟨rfl, ⟨rfl, ⟨rfl, ⟨rfl, trivial⟩⟩⟩⟩⟩⟩⟩) ?_
                    refine pw_eqG (G' := uA G 235 (0) ((upA (upA F 7 (((F) (7)) + 1)) 8 (((F) (8)) + 1)))) (by rw [sA_uA, sA_uA]) ?_
                    exact ih150 ((i + 1)) ((upA (upA F 7 (((F) (7)) + 1)) 8 (((F) (8)) + 1))) (by first | assumption | omega) (fun z => absurd z (by omega)) (fun j j0 j7 => by rw [upA_ne (by omega), upA_ne (by omega)]; exact hF j j0 j7) (by rw [upA_ne (by decide), upA_same]; rw [h7]; first | exact (cnt_t hi.1 (show (((gA G 206 0 (i)) = 0 ∧ (gA G 207 0 (i)) = (gA G 207 0 (p))) ∧ ((0 : Int) = 0 ∨ (gA G 204 0 (i)) = 3)) by omega)).symm | (rw [Int.add_zero]; exact (cnt_f hi.1 (show ¬ (((gA G 206 0 (i)) = 0 ∧ (gA G 207 0 (i)) = (gA G 207 0 (p))) ∧ ((0 : Int) = 0 ∨ (gA G 204 0 (i)) = 3)) by omega)).symm)) (by rw [upA_same]; rw [h8]; first | exact (cnt_t hi.1 (show (((gA G 206 0 (i)) = 0 ∧ (gA G 207 0 (i)) = (gA G 207 0 (p))) ∧ ((1 : Int) = 0 ∨ (gA G 204 0 (i)) = 3)) by omega)).symm | (rw [Int.add_zero]; exact (cnt_f hi.1 (show ¬ (((gA G 206 0 (i)) = 0 ∧ (gA G 207 0 (i)) = (gA G 207 0 (p))) ∧ ((1 : Int) = 0 ∨ (gA G 204 0 (i)) = 3)) by omega)).symm)) (by omega)
      refine pw_eqG (G' := uA G 235 (0) ((upA (upA (upA (upA (upA (upA (upA (upA (upA (fun j => gA G 235 (0) j) 0 (gA G 204 (0) (p))) 1 (kM G z p 0 k)) 2 (kM G z p 1 k)) 3 (kM G z p 2 k)) 4 (gA G 208 (0) (p))) 5 (max 0 (d0 - (gA G 212 0 (p))))) 6 (brM G (1 - z) (min d0 (gF G 12 0 0)))) 7 0) 8 0))) (by simp only [sA_eq G, sA_uA]) ?_
      exact L150 _ (0) ((upA (upA (upA (upA (upA (upA (upA (upA (upA (fun j => gA G 235 (0) j) 0 (gA G 204 (0) (p))) 1 (kM G z p 0 k)) 2 (kM G z p 1 k)) 3 (kM G z p 2 k)) 4 (gA G 208 (0) (p))) 5 (max 0 (d0 - (gA G 212 0 (p))))) 6 (brM G (1 - z) (min d0 (gF G 12 0 0)))) 7 0) 8 0)) (by first | assumption | omega) (fun _ => rfl) (by intro j j0 j7; rcases (show j = 0 ∨ j = 1 ∨ j = 2 ∨ j = 3 ∨ j = 4 ∨ j = 5 ∨ j = 6 by omega) with e | e | e | e | e | e | e <;> subst e <;> rfl) (rfl) (rfl) (Nat.lt_succ_self _)
    · skip
      refine pw_iload r_12_saidOf_118 rfl ?_
      refine pw_goto r_12_saidOf_120 ?_
      refine pw_callV (av := [vI ((1 - z)), vI (d0)]) (st := [vI (6), vR 235 (0)]) (ls0 := [some (vR 12 (0)), some (vI ((1 - z))), some (vI (d0)), none, none]) r_12_saidOf_127 rfl rfl rfl (Nat.le_refl _) ?_
      refine sp_X12_brokenOf (by first | assumption | exact hsz | omega) (by first | assumption | exact hpr | omega) ?_
      refine pw_top (b := cnt (fun i => (gA G 224 (0) (i)) = (1 - z) ∧ ((gA G 227 (0) (i)) < d0 ∧ cnt (fun i1 => ((gA G 206 (0) (i1)) = 5 ∧ (gA G 205 (0) (i1)) = (gA G 224 (0) (i))) ∧ (gA G 226 (0) (i)) ≤ (gA G 213 (0) (i1)) ∧ (gA G 213 (0) (i1)) ≤ (gA G 227 (0) (i))) (gF G 12 (0) 17) < (gA G 225 (0) (i)))) (gF G 12 (0) 34)) (by first | rfl | simp (disch := decide) [gF_sF, gF_sA, gF_uA, gF_sD, gA_sF, gA_sA, gA_uA, gA_sD, gD_sF, gD_sA, gD_uA, gD_sD]) ?_
      refine pw_top (b := brM G (1 - z) (min d0 (gF G 12 0 0))) ((show brM G (1 - z) (d0) = brM G (1 - z) (min d0 (gF G 12 0 0)) from congrArg (brM G (1 - z)) (by omega))) ?_
      refine pw_iast r_12_saidOf_130 sh235 (by omega) (by omega) ?_
      refine pw_aload r_12_saidOf_131 rfl ?_
      refine pw_getR r_12_saidOf_132 fs_12_49 (by decide) ?_
      refine pw_const r_12_saidOf_135 ?_
      refine pw_const r_12_saidOf_137 ?_
      refine pw_iast r_12_saidOf_138 sh235 (by omega) (by omega) ?_
      refine pw_aload r_12_saidOf_139 rfl ?_
      refine pw_getR r_12_saidOf_140 fs_12_49 (by decide) ?_
      refine pw_const r_12_saidOf_143 ?_
      refine pw_const r_12_saidOf_145 ?_
      refine pw_iast r_12_saidOf_146 sh235 (by omega) (by omega) ?_
      refine pw_const r_12_saidOf_147 ?_
      refine pw_istore (ls' := [some (vR 12 (0)), some (vI (t)), some (vI (p)), some (vI (z)), some (vI (d0)), some (vI (k)), some (vI (0)), none]) r_12_saidOf_148 rfl rfl ?_
      have L150 : ∀ (nF : Nat) (i : Int) (F : Int → Int), (hi : 0 ≤ i ∧ i ≤ (gF G 12 0 17)) → (hs : (gA G 206 0 (p)) ≠ 0 → i = 0) → (hF : ∀ j, 0 ≤ j → j < 7 → F j = valM G z p d0 k j) → (h7 : F 7 = ciM G (gA G 207 0 (p)) 0 i) → (h8 : F 8 = ciM G (gA G 207 0 (p)) 1 i) → ((gF G 12 0 17) - i).toNat < nF → PW l w M_X12_saidOf (d + 96) 150 [some (vR 12 (0)), some (vI (t)), some (vI (p)), some (vI (z)), some (vI (d0)), some (vI (k)), some (vI (i)), none] [] (uA G 235 (0) (F)) P := by
        intro nF
        induction nF with
        | zero => intro _ _ _ _ _ _ _ hM; exact absurd hM (Nat.not_lt_zero _)
        | succ nF ih150 =>
          intro i F hi hs hF h7 h8 hM150
          have hc7 : 0 ≤ ciM G (gA G 207 0 (p)) 0 i ∧ ciM G (gA G 207 0 (p)) 0 i ≤ i := cnt_le _ hi.1
          have hc8 : 0 ≤ ciM G (gA G 207 0 (p)) 1 i ∧ ciM G (gA G 207 0 (p)) 1 i ≤ i := cnt_le _ hi.1
          refine pw_iload r_12_saidOf_150 rfl ?_
          refine pw_aload r_12_saidOf_152 rfl ?_
          refine pw_getIv (v := gF G 12 (0) 17) r_12_saidOf_153 fs_12_17 (by decide) (by first | rfl | simp [gF_sF, gF_sA, gF_uA, gF_sD, gA_sF, gA_sA, gA_uA, gA_sD, gD_sF, gD_sA, gD_uA, gD_sD]) ?_
          refine pw_icmp_ge r_12_saidOf_156 (fun h156 => ?_) (fun h156 => ?_)
          · skip
            have h7v : F 7 = valM G z p d0 k 7 := by
              rw [h7]
              show ciM G (gA G 207 0 (p)) 0 i = if (gA G 206 0 (p)) = 0 then ciM G (gA G 207 0 (p)) 0 (gF G 12 0 17) else 0
              by_cases hst : (gA G 206 0 (p)) = 0
              · rw [if_pos hst, show i = (gF G 12 0 17) by omega]
              · rw [if_neg hst, show i = 0 from hs hst]; rfl
            have h8v : F 8 = valM G z p d0 k 8 := by
              rw [h8]
              show ciM G (gA G 207 0 (p)) 1 i = if (gA G 206 0 (p)) = 0 then ciM G (gA G 207 0 (p)) 1 (gF G 12 0 17) else 0
              by_cases hst : (gA G 206 0 (p)) = 0
              · rw [if_pos hst, show i = (gF G 12 0 17) by omega]
              · rw [if_neg hst, show i = 0 from hs hst]; rfl
            refine pw_aload r_12_saidOf_258 rfl ?_
            refine pw_const r_12_saidOf_259 ?_
            refine pw_iload r_12_saidOf_262 rfl ?_
            refine pw_imul r_12_saidOf_263 (by omega) ?_
            refine pw_aload r_12_saidOf_264 rfl ?_
            refine pw_getR r_12_saidOf_265 fs_12_38 (by decide) ?_
            refine pw_iload r_12_saidOf_268 rfl ?_
            refine pw_ialdv (v := gA G 230 (0) (t)) r_12_saidOf_269 sh230 (by omega) (by omega) (by first | rfl | simp [gF_sF, gF_sA, gF_uA, gF_sD, gA_sF, gA_sA, gA_uA, gA_sD, gD_sF, gD_sA, gD_uA, gD_sD]) ?_
            refine pw_callV (av := [vI ((160 * t)), vI (gA G 230 (0) (t))]) (st := []) (ls0 := [some (vR 12 (0)), some (vI ((160 * t))), some (vI (gA G 230 (0) (t))), none, none, none, none, none]) r_12_saidOf_270 rfl rfl rfl (Nat.le_refl _) ?_
            refine sp_X12_workOut (bs := (160 * t)) (n := (gA G 230 0 (t))) (b := (fun j => (gA G 229 0 (160 * t + j)))) (e := (valM G z p d0 k)) (by intro j _ _; rw [if_neg (by omega)]; rfl) (by omega) (by intro j j0 j9; show F j = _; rcases (show j < 7 ∨ j = 7 ∨ j = 8 by omega) with e | e | e; exact hF j j0 e; rw [e]; exact h7v; rw [e]; exact h8v) ((hTX t ht.1 ht.2).1) ?_ ?_
            · skip
              exact fun f1 v1 x1 l1 q1 _ _ => absurd (EvT_det q1 (hTX t ht.1 ht.2).2) (fun h => by cases h)
            · skip
              intro L1 q1
              refine pw_iret r_12_saidOf_273 rfl (Nat.le_refl _) ⟨rfl, ?_⟩
              have eL : L1 = lnM G t := Sum.inr.inj (EvT_det q1 (hTX t ht.1 ht.2).2)
              have hS9 : SD t z p d0 k = pick (valM G z p d0 k) (lnM G t) 0 := by rw [← hSD]; rfl
              rw [eL, ← hS9]
              exact hP (_, _, _, _, _, _, (SD t z p d0 k).1) rfl
          · skip
            refine pw_aload r_12_saidOf_159 rfl ?_
            refine pw_getR r_12_saidOf_160 fs_12_8 (by decide) ?_
            refine pw_iload r_12_saidOf_163 rfl ?_
            refine pw_ialdv (v := gA G 206 (0) (p)) r_12_saidOf_164 sh206 (by omega) (by omega) (by first | rfl | simp [gF_sF, gF_sA, gF_uA, gF_sD, gA_sF, gA_sA, gA_uA, gA_sD, gD_sF, gD_sA, gD_uA, gD_sD]) ?_
            refine pw_if_ne r_12_saidOf_165 (fun h165 => ?_) (fun h165 => ?_)
            · skip
              have h7v : F 7 = valM G z p d0 k 7 := by
                rw [h7]
                show ciM G (gA G 207 0 (p)) 0 i = if (gA G 206 0 (p)) = 0 then ciM G (gA G 207 0 (p)) 0 (gF G 12 0 17) else 0
                by_cases hst : (gA G 206 0 (p)) = 0
                · rw [if_pos hst, show i = (gF G 12 0 17) by omega]
                · rw [if_neg hst, show i = 0 from hs hst]; rfl
              have h8v : F 8 = valM G z p d0 k 8 := by
                rw [h8]
                show ciM G (gA G 207 0 (p)) 1 i = if (gA G 206 0 (p)) = 0 then ciM G (gA G 207 0 (p)) 1 (gF G 12 0 17) else 0
                by_cases hst : (gA G 206 0 (p)) = 0
                · rw [if_pos hst, show i = (gF G 12 0 17) by omega]
                · rw [if_neg hst, show i = 0 from hs hst]; rfl
              refine pw_aload r_12_saidOf_258 rfl ?_
              refine pw_const r_12_saidOf_259 ?_
              refine pw_iload r_12_saidOf_262 rfl ?_
              refine pw_imul r_12_saidOf_263 (by omega) ?_
              refine pw_aload r_12_saidOf_264 rfl ?_
              refine pw_getR r_12_saidOf_265 fs_12_38 (by decide) ?_
              refine pw_iload r_12_saidOf_268 rfl ?_
              refine pw_ialdv (v := gA G 230 (0) (t)) r_12_saidOf_269 sh230 (by omega) (by omega) (by first | rfl | simp [gF_sF, gF_sA, gF_uA, gF_sD, gA_sF, gA_sA, gA_uA, gA_sD, gD_sF, gD_sA, gD_uA, gD_sD]) ?_
              refine pw_callV (av := [vI ((160 * t)), vI (gA G 230 (0) (t))]) (st := []) (ls0 := [some (vR 12 (0)), some (vI ((160 * t))), some (vI (gA G 230 (0) (t))), none, none, none, none, none]) r_12_saidOf_270 rfl rfl rfl (Nat.le_refl _) ?_
              refine sp_X12_workOut (bs := (160 * t)) (n := (gA G 230 0 (t))) (b := (fun j => (gA G 229 0 (160 * t + j)))) (e := (valM G z p d0 k)) (by intro j _ _; rw [if_neg (by omega)]; rfl) (by omega) (by intro j j0 j9; show F j = _; rcases (show j < 7 ∨ j = 7 ∨ j = 8 by omega) with e | e | e; exact hF j j0 e; rw [e]; exact h7v; rw [e]; exact h8v) ((hTX t ht.1 ht.2).1) ?_ ?_
              · skip
                exact fun f1 v1 x1 l1 q1 _ _ => absurd (EvT_det q1 (hTX t ht.1 ht.2).2) (fun h => by cases h)
              · skip
                intro L1 q1
                refine pw_iret r_12_saidOf_273 rfl (Nat.le_refl _) ⟨rfl, ?_⟩
                have eL : L1 = lnM G t := Sum.inr.inj (EvT_det q1 (hTX t ht.1 ht.2).2)
                have hS9 : SD t z p d0 k = pick (valM G z p d0 k) (lnM G t) 0 := by rw [← hSD]; rfl
                rw [eL, ← hS9]
                exact hP (_, _, _, _, _, _, (SD t z p d0 k).1) rfl
            · skip
              refine pw_aload r_12_saidOf_168 rfl ?_
              refine pw_getR r_12_saidOf_169 fs_12_8 (by decide) ?_
              refine pw_iload r_12_saidOf_172 rfl ?_
              refine pw_ialdv (v := gA G 206 (0) (i)) r_12_saidOf_174 sh206 (by omega) (by omega) (by first | rfl | simp [gF_sF, gF_sA, gF_uA, gF_sD, gA_sF, gA_sA, gA_uA, gA_sD, gD_sF, gD_sA, gD_uA, gD_sD]) ?_
              refine pw_if_ne r_12_saidOf_175 (fun h175 => ?_) (fun h175 => ?_)
              · skip
                refine pw_const r_12_saidOf_198 ?_
                refine pw_istore (ls' := [some (vR 12 (0)), some (vI (t)), some (vI (p)), some (vI (z)), some (vI (d0)), some (vI (k)), some (vI (i)), some (vI (0))]) r_12_saidOf_199 rfl rfl ?_
                refine pw_aload r_12_saidOf_201 rfl ?_
                refine pw_getR r_12_saidOf_202 fs_12_49 (by decide) ?_
                refine pw_const r_12_saidOf_205 ?_
                refine pw_dup2 r_12_saidOf_207 rfl rfl ?_
                refine pw_ialdv (v := (F) (7)) r_12_saidOf_208 sh235 (by omega) (by omega) (by first | rfl | simp [gF_sF, gF_sA, gF_uA, gF_sD, gA_sF, gA_sA, gA_uA, gA_sD, gD_sF, gD_sA, gD_uA, gD_sD]) ?_
                refine pw_iload r_12_saidOf_209 rfl ?_
                refine pw_if_eq r_12_saidOf_211 (fun h211 => ?_) (fun h211 => absurd h211 (by decide))
                refine pw_const r_12_saidOf_218 ?_
                refine pw_iadd r_12_saidOf_219 (by omega) ?_
                refine pw_iast r_12_saidOf_220 sh235 (by omega) (by omega) ?_
                refine pw_aload r_12_saidOf_221 rfl ?_
                refine pw_getR r_12_saidOf_222 fs_12_49 (by decide) ?_
                refine pw_const r_12_saidOf_225 ?_
                refine pw_dup2 r_12_saidOf_227 rfl rfl ?_
                refine pw_ialdv (v := (F) (8)) r_12_saidOf_228 sh235 (by omega) (by omega) (by first | rfl | simp [gF_sF, gF_sA, gF_uA, gF_sD, gA_sF, gA_sA, gA_uA, gA_sD, gD_sF, gD_sA, gD_uA, gD_sD]) ?_
                refine pw_iload r_12_saidOf_229 rfl ?_
                refine pw_if_eq r_12_saidOf_231 (fun h231 => ?_) (fun h231 => absurd h231 (by decide))
                refine pw_const r_12_saidOf_249 ?_
                refine pw_iadd r_12_saidOf_250 (by omega) ?_
                refine pw_iast r_12_saidOf_251 sh235 (by omega) (by omega) ?_
                refine pw_iinc (b := 0) (ls' := [some (vR 12 (0)), some (vI (t)), some (vI (p)), some (vI (z)), some (vI (d0)), some (vI (k)), some (vI ((i + 1))), some (vI (0))]) r_12_saidOf_252 rfl rfl (by omega) rfl ?_
                refine pw_goto r_12_saidOf_255 ?_
                refine pw_weakL (ls' := [some (vR 12 (0)), some (vI (t)), some (vI (p)), some (vI (z)), some (vI (d0)), some (vI (k)), some (vI ((i + 1))), none]) (⟨rfl, ⟨rfl, ⟨rfl, ⟨rfl, ⟨rfl, ⟨rfl, ⟨rfl, trivial⟩⟩⟩⟩⟩⟩⟩) ?_
                refine pw_eqG (G' := uA G 235 (0) ((upA (upA F 7 (((F) (7)) + 0)) 8 (((F) (8)) + 0)))) (by rw [sA_uA, sA_uA]) ?_
                exact ih150 ((i + 1)) ((upA (upA F 7 (((F) (7)) + 0)) 8 (((F) (8)) + 0))) (by first | assumption | omega) (fun z => absurd z (by omega)) (fun j j0 j7 => by rw [upA_ne (by omega), upA_ne (by omega)]; exact hF j j0 j7) (by rw [upA_ne (by decide), upA_same]; rw [h7]; first | exact (cnt_t hi.1 (show (((gA G 206 0 (i)) = 0 ∧ (gA G 207 0 (i)) = (gA G 207 0 (p))) ∧ ((0 : Int) = 0 ∨ (gA G 204 0 (i)) = 3)) by omega)).symm | (rw [Int.add_zero]; exact (cnt_f hi.1 (show ¬ (((gA G 206 0 (i)) = 0 ∧ (gA G 207 0 (i)) = (gA G 207 0 (p))) ∧ ((0 : Int) = 0 ∨ (gA G 204 0 (i)) = 3)) by omega)).symm)) (by rw [upA_same]; rw [h8]; first | exact (cnt_t hi.1 (show (((gA G 206 0 (i)) = 0 ∧ (gA G 207 0 (i)) = (gA G 207 0 (p))) ∧ ((1 : Int) = 0 ∨ (gA G 204 0 (i)) = 3)) by omega)).symm | (rw [Int.add_zero]; exact (cnt_f hi.1 (show ¬ (((gA G 206 0 (i)) = 0 ∧ (gA G 207 0 (i)) = (gA G 207 0 (p))) ∧ ((1 : Int) = 0 ∨ (gA G 204 0 (i)) = 3)) by omega)).symm)) (by omega)
              · skip
                refine pw_aload r_12_saidOf_178 rfl ?_
                refine pw_getR r_12_saidOf_179 fs_12_9 (by decide) ?_
                refine pw_iload r_12_saidOf_182 rfl ?_
                refine pw_ialdv (v := gA G 207 (0) (i)) r_12_saidOf_184 sh207 (by omega) (by omega) (by first | rfl | simp [gF_sF, gF_sA, gF_uA, gF_sD, gA_sF, gA_sA, gA_uA, gA_sD, gD_sF, gD_sA, gD_uA, gD_sD]) ?_
                refine pw_aload r_12_saidOf_185 rfl ?_
                refine pw_getR r_12_saidOf_186 fs_12_9 (by decide) ?_
                refine pw_iload r_12_saidOf_189 rfl ?_
                refine pw_ialdv (v := gA G 207 (0) (p)) r_12_saidOf_190 sh207 (by omega) (by omega) (by first | rfl | simp [gF_sF, gF_sA, gF_uA, gF_sD, gA_sF, gA_sA, gA_uA, gA_sD, gD_sF, gD_sA, gD_uA, gD_sD]) ?_
                refine pw_icmp_ne r_12_saidOf_191 (fun h191 => ?_) (fun h191 => ?_)
                · skip
                  refine pw_const r_12_saidOf_198 ?_
                  refine pw_istore (ls' := [some (vR 12 (0)), some (vI (t)), some (vI (p)), some (vI (z)), some (vI (d0)), some (vI (k)), some (vI (i)), some (vI (0))]) r_12_saidOf_199 rfl rfl ?_
                  refine pw_aload r_12_saidOf_201 rfl ?_
                  refine pw_getR r_12_saidOf_202 fs_12_49 (by decide) ?_
                  refine pw_const r_12_saidOf_205 ?_
                  refine pw_dup2 r_12_saidOf_207 rfl rfl ?_
                  refine pw_ialdv (v := (F) (7)) r_12_saidOf_208 sh235 (by omega) (by omega) (by first | rfl | simp [gF_sF, gF_sA, gF_uA, gF_sD, gA_sF, gA_sA, gA_uA, gA_sD, gD_sF, gD_sA, gD_uA, gD_sD]) ?_
                  refine pw_iload r_12_saidOf_209 rfl ?_
                  refine pw_if_eq r_12_saidOf_211 (fun h211 => ?_) (fun h211 => absurd h211 (by decide))
                  refine pw_const r_12_saidOf_218 ?_
                  refine pw_iadd r_12_saidOf_219 (by omega) ?_
                  refine pw_iast r_12_saidOf_220 sh235 (by omega) (by omega) ?_
                  refine pw_aload r_12_saidOf_221 rfl ?_
                  refine pw_getR r_12_saidOf_222 fs_12_49 (by decide) ?_
                  refine pw_const r_12_saidOf_225 ?_
                  refine pw_dup2 r_12_saidOf_227 rfl rfl ?_
                  refine pw_ialdv (v := (F) (8)) r_12_saidOf_228 sh235 (by omega) (by omega) (by first | rfl | simp [gF_sF, gF_sA, gF_uA, gF_sD, gA_sF, gA_sA, gA_uA, gA_sD, gD_sF, gD_sA, gD_uA, gD_sD]) ?_
                  refine pw_iload r_12_saidOf_229 rfl ?_
                  refine pw_if_eq r_12_saidOf_231 (fun h231 => ?_) (fun h231 => absurd h231 (by decide))
                  refine pw_const r_12_saidOf_249 ?_
                  refine pw_iadd r_12_saidOf_250 (by omega) ?_
                  refine pw_iast r_12_saidOf_251 sh235 (by omega) (by omega) ?_
                  refine pw_iinc (b := 0) (ls' := [some (vR 12 (0)), some (vI (t)), some (vI (p)), some (vI (z)), some (vI (d0)), some (vI (k)), some (vI ((i + 1))), some (vI (0))]) r_12_saidOf_252 rfl rfl (by omega) rfl ?_
                  refine pw_goto r_12_saidOf_255 ?_
                  refine pw_weakL (ls' := [some (vR 12 (0)), some (vI (t)), some (vI (p)), some (vI (z)), some (vI (d0)), some (vI (k)), some (vI ((i + 1))), none]) (⟨rfl, ⟨rfl, ⟨rfl, ⟨rfl, ⟨rfl, ⟨rfl, ⟨rfl, trivial⟩⟩⟩⟩⟩⟩⟩) ?_
                  refine pw_eqG (G' := uA G 235 (0) ((upA (upA F 7 (((F) (7)) + 0)) 8 (((F) (8)) + 0)))) (by rw [sA_uA, sA_uA]) ?_
                  exact ih150 ((i + 1)) ((upA (upA F 7 (((F) (7)) + 0)) 8 (((F) (8)) + 0))) (by first | assumption | omega) (fun z => absurd z (by omega)) (fun j j0 j7 => by rw [upA_ne (by omega), upA_ne (by omega)]; exact hF j j0 j7) (by rw [upA_ne (by decide), upA_same]; rw [h7]; first | exact (cnt_t hi.1 (show (((gA G 206 0 (i)) = 0 ∧ (gA G 207 0 (i)) = (gA G 207 0 (p))) ∧ ((0 : Int) = 0 ∨ (gA G 204 0 (i)) = 3)) by omega)).symm | (rw [Int.add_zero]; exact (cnt_f hi.1 (show ¬ (((gA G 206 0 (i)) = 0 ∧ (gA G 207 0 (i)) = (gA G 207 0 (p))) ∧ ((0 : Int) = 0 ∨ (gA G 204 0 (i)) = 3)) by omega)).symm)) (by rw [upA_same]; rw [h8]; first | exact (cnt_t hi.1 (show (((gA G 206 0 (i)) = 0 ∧ (gA G 207 0 (i)) = (gA G 207 0 (p))) ∧ ((1 : Int) = 0 ∨ (gA G 204 0 (i)) = 3)) by omega)).symm | (rw [Int.add_zero]; exact (cnt_f hi.1 (show ¬ (((gA G 206 0 (i)) = 0 ∧ (gA G 207 0 (i)) = (gA G 207 0 (p))) ∧ ((1 : Int) = 0 ∨ (gA G 204 0 (i)) = 3)) by omega)).symm)) (by omega)
                · skip
                  refine pw_const r_12_saidOf_194 ?_
                  refine pw_goto r_12_saidOf_195 ?_
                  refine pw_istore (ls' := [some (vR 12 (0)), some (vI (t)), some (vI (p)), some (vI (z)), some (vI (d0)), some (vI (k)), some (vI (i)), some (vI (1))]) r_12_saidOf_199 rfl rfl ?_
                  refine pw_aload r_12_saidOf_201 rfl ?_
                  refine pw_getR r_12_saidOf_202 fs_12_49 (by decide) ?_
                  refine pw_const r_12_saidOf_205 ?_
                  refine pw_dup2 r_12_saidOf_207 rfl rfl ?_
                  refine pw_ialdv (v := (F) (7)) r_12_saidOf_208 sh235 (by omega) (by omega) (by first | rfl | simp [gF_sF, gF_sA, gF_uA, gF_sD, gA_sF, gA_sA, gA_uA, gA_sD, gD_sF, gD_sA, gD_uA, gD_sD]) ?_
                  refine pw_iload r_12_saidOf_209 rfl ?_
                  refine pw_if_eq r_12_saidOf_211 (fun h211 => absurd h211 (by decide)) (fun h211 => ?_)
                  refine pw_const r_12_saidOf_214 ?_
                  refine pw_goto r_12_saidOf_215 ?_
                  refine pw_iadd r_12_saidOf_219 (by omega) ?_
                  refine pw_iast r_12_saidOf_220 sh235 (by omega) (by omega) ?_
                  refine pw_aload r_12_saidOf_221 rfl ?_
                  refine pw_getR r_12_saidOf_222 fs_12_49 (by decide) ?_
                  refine pw_const r_12_saidOf_225 ?_
                  refine pw_dup2 r_12_saidOf_227 rfl rfl ?_
                  refine pw_ialdv (v := (F) (8)) r_12_saidOf_228 sh235 (by omega) (by omega) (by first | rfl | simp [gF_sF, gF_sA, gF_uA, gF_sD, gA_sF, gA_sA, gA_uA, gA_sD, gD_sF, gD_sA, gD_uA, gD_sD]) ?_
                  refine pw_iload r_12_saidOf_229 rfl ?_
                  refine pw_if_eq r_12_saidOf_231 (fun h231 => absurd h231 (by decide)) (fun h231 => ?_)
                  refine pw_aload r_12_saidOf_234 rfl ?_
                  refine pw_getR r_12_saidOf_235 fs_12_6 (by decide) ?_
                  refine pw_iload r_12_saidOf_238 rfl ?_
                  refine pw_ialdv (v := gA G 204 (0) (i)) r_12_saidOf_240 sh204 (by omega) (by omega) (by first | rfl | simp [gF_sF, gF_sA, gF_uA, gF_sD, gA_sF, gA_sA, gA_uA, gA_sD, gD_sF, gD_sA, gD_uA, gD_sD]) ?_
                  refine pw_const r_12_saidOf_241 ?_
                  refine pw_icmp_ne r_12_saidOf_242 (fun h242 => ?_) (fun h242 => ?_)
                  · skip
                    refine pw_const r_12_saidOf_249 ?_
                    refine pw_iadd r_12_saidOf_250 (by omega) ?_
                    refine pw_iast r_12_saidOf_251 sh235 (by omega) (by omega) ?_
                    refine pw_iinc (b := 0) (ls' := [some (vR 12 (0)), some (vI (t)), some (vI (p)), some (vI (z)), some (vI (d0)), some (vI (k)), some (vI ((i + 1))), some (vI (1))]) r_12_saidOf_252 rfl rfl (by omega) rfl ?_
                    refine pw_goto r_12_saidOf_255 ?_
                    refine pw_weakL (ls' := [some (vR 12 (0)), some (vI (t)), some (vI (p)), some (vI (z)), some (vI (d0)), some (vI (k)), some (vI ((i + 1))), none]) (⟨rfl, ⟨rfl, ⟨rfl, ⟨rfl, ⟨rfl, ⟨rfl, ⟨rfl, trivial⟩⟩⟩⟩⟩⟩⟩) ?_
                    refine pw_eqG (G' := uA G 235 (0) ((upA (upA F 7 (((F) (7)) + 1)) 8 (((F) (8)) + 0)))) (by rw [sA_uA, sA_uA]) ?_
                    exact ih150 ((i + 1)) ((upA (upA F 7 (((F) (7)) + 1)) 8 (((F) (8)) + 0))) (by first | assumption | omega) (fun z => absurd z (by omega)) (fun j j0 j7 => by rw [upA_ne (by omega), upA_ne (by omega)]; exact hF j j0 j7) (by rw [upA_ne (by decide), upA_same]; rw [h7]; first | exact (cnt_t hi.1 (show (((gA G 206 0 (i)) = 0 ∧ (gA G 207 0 (i)) = (gA G 207 0 (p))) ∧ ((0 : Int) = 0 ∨ (gA G 204 0 (i)) = 3)) by omega)).symm | (rw [Int.add_zero]; exact (cnt_f hi.1 (show ¬ (((gA G 206 0 (i)) = 0 ∧ (gA G 207 0 (i)) = (gA G 207 0 (p))) ∧ ((0 : Int) = 0 ∨ (gA G 204 0 (i)) = 3)) by omega)).symm)) (by rw [upA_same]; rw [h8]; first | exact (cnt_t hi.1 (show (((gA G 206 0 (i)) = 0 ∧ (gA G 207 0 (i)) = (gA G 207 0 (p))) ∧ ((1 : Int) = 0 ∨ (gA G 204 0 (i)) = 3)) by omega)).symm | (rw [Int.add_zero]; exact (cnt_f hi.1 (show ¬ (((gA G 206 0 (i)) = 0 ∧ (gA G 207 0 (i)) = (gA G 207 0 (p))) ∧ ((1 : Int) = 0 ∨ (gA G 204 0 (i)) = 3)) by omega)).symm)) (by omega)
                  · skip
                    refine pw_const r_12_saidOf_245 ?_
                    refine pw_goto r_12_saidOf_246 ?_
                    refine pw_iadd r_12_saidOf_250 (by omega) ?_
                    refine pw_iast r_12_saidOf_251 sh235 (by omega) (by omega) ?_
                    refine pw_iinc (b := 0) (ls' := [some (vR 12 (0)), some (vI (t)), some (vI (p)), some (vI (z)), some (vI (d0)), some (vI (k)), some (vI ((i + 1))), some (vI (1))]) r_12_saidOf_252 rfl rfl (by omega) rfl ?_
                    refine pw_goto r_12_saidOf_255 ?_
                    refine pw_weakL (ls' := [some (vR 12 (0)), some (vI (t)), some (vI (p)), some (vI (z)), some (vI (d0)), some (vI (k)), some (vI ((i + 1))), none]) (⟨rfl, ⟨rfl, ⟨rfl, ⟨rfl, ⟨rfl, ⟨rfl, ⟨rfl, trivial⟩⟩⟩⟩⟩⟩⟩) ?_
                    refine pw_eqG (G' := uA G 235 (0) ((upA (upA F 7 (((F) (7)) + 1)) 8 (((F) (8)) + 1)))) (by rw [sA_uA, sA_uA]) ?_
                    exact ih150 ((i + 1)) ((upA (upA F 7 (((F) (7)) + 1)) 8 (((F) (8)) + 1))) (by first | assumption | omega) (fun z => absurd z (by omega)) (fun j j0 j7 => by rw [upA_ne (by omega), upA_ne (by omega)]; exact hF j j0 j7) (by rw [upA_ne (by decide), upA_same]; rw [h7]; first | exact (cnt_t hi.1 (show (((gA G 206 0 (i)) = 0 ∧ (gA G 207 0 (i)) = (gA G 207 0 (p))) ∧ ((0 : Int) = 0 ∨ (gA G 204 0 (i)) = 3)) by omega)).symm | (rw [Int.add_zero]; exact (cnt_f hi.1 (show ¬ (((gA G 206 0 (i)) = 0 ∧ (gA G 207 0 (i)) = (gA G 207 0 (p))) ∧ ((0 : Int) = 0 ∨ (gA G 204 0 (i)) = 3)) by omega)).symm)) (by rw [upA_same]; rw [h8]; first | exact (cnt_t hi.1 (show (((gA G 206 0 (i)) = 0 ∧ (gA G 207 0 (i)) = (gA G 207 0 (p))) ∧ ((1 : Int) = 0 ∨ (gA G 204 0 (i)) = 3)) by omega)).symm | (rw [Int.add_zero]; exact (cnt_f hi.1 (show ¬ (((gA G 206 0 (i)) = 0 ∧ (gA G 207 0 (i)) = (gA G 207 0 (p))) ∧ ((1 : Int) = 0 ∨ (gA G 204 0 (i)) = 3)) by omega)).symm)) (by omega)
      refine pw_eqG (G' := uA G 235 (0) ((upA (upA (upA (upA (upA (upA (upA (upA (upA (fun j => gA G 235 (0) j) 0 (gA G 204 (0) (p))) 1 (kM G z p 0 k)) 2 (kM G z p 1 k)) 3 (kM G z p 2 k)) 4 (gA G 208 (0) (p))) 5 (max 0 (d0 - (gA G 212 0 (p))))) 6 (brM G (1 - z) (min d0 (gF G 12 0 0)))) 7 0) 8 0))) (by simp only [sA_eq G, sA_uA]) ?_
      exact L150 _ (0) ((upA (upA (upA (upA (upA (upA (upA (upA (upA (fun j => gA G 235 (0) j) 0 (gA G 204 (0) (p))) 1 (kM G z p 0 k)) 2 (kM G z p 1 k)) 3 (kM G z p 2 k)) 4 (gA G 208 (0) (p))) 5 (max 0 (d0 - (gA G 212 0 (p))))) 6 (brM G (1 - z) (min d0 (gF G 12 0 0)))) 7 0) 8 0)) (by first | assumption | omega) (fun _ => rfl) (by intro j j0 j7; rcases (show j = 0 ∨ j = 1 ∨ j = 2 ∨ j = 3 ∨ j = 4 ∨ j = 5 ∨ j = 6 by omega) with e | e | e | e | e | e | e <;> subst e <;> rfl) (rfl) (rfl) (Nat.lt_succ_self _)
  · skip
    refine pw_iload r_12_saidOf_85 rfl ?_
    refine pw_aload r_12_saidOf_87 rfl ?_
    refine pw_getR r_12_saidOf_88 fs_12_14 (by decide) ?_
    refine pw_iload r_12_saidOf_91 rfl ?_
    refine pw_ialdv (v := gA G 212 (0) (p)) r_12_saidOf_92 sh212 (by omega) (by omega) (by first | rfl | simp [gF_sF, gF_sA, gF_uA, gF_sD, gA_sF, gA_sA, gA_uA, gA_sD, gD_sF, gD_sA, gD_uA, gD_sD]) ?_
    refine pw_isub r_12_saidOf_93 (by omega) ?_
    refine pw_goto r_12_saidOf_94 ?_
    refine pw_top (b := max 0 (d0 - (gA G 212 0 (p)))) (by omega) ?_
    refine pw_iast r_12_saidOf_98 sh235 (by omega) (by omega) ?_
    refine pw_aload r_12_saidOf_99 rfl ?_
    refine pw_getR r_12_saidOf_100 fs_12_49 (by decide) ?_
    refine pw_const r_12_saidOf_103 ?_
    refine pw_aload r_12_saidOf_105 rfl ?_
    refine pw_const r_12_saidOf_106 ?_
    refine pw_iload r_12_saidOf_107 rfl ?_
    refine pw_isub r_12_saidOf_108 (by omega) ?_
    refine pw_iload r_12_saidOf_109 rfl ?_
    refine pw_aload r_12_saidOf_111 rfl ?_
    refine pw_getIv (v := gF G 12 (0) 0) r_12_saidOf_112 fs_12_0 (by decide) (by first | rfl | simp [gF_sF, gF_sA, gF_uA, gF_sD, gA_sF, gA_sA, gA_uA, gA_sD, gD_sF, gD_sA, gD_uA, gD_sD]) ?_
    refine pw_icmp_ge r_12_saidOf_115 (fun h115 => ?_) (fun h115 => ?_)
    · skip
      refine pw_aload r_12_saidOf_123 rfl ?_
      refine pw_getIv (v := gF G 12 (0) 0) r_12_saidOf_124 fs_12_0 (by decide) (by first | rfl | simp [gF_sF, gF_sA, gF_uA, gF_sD, gA_sF, gA_sA, gA_uA, gA_sD, gD_sF, gD_sA, gD_uA, gD_sD]) ?_
      refine pw_callV (av := [vI ((1 - z)), vI (gF G 12 (0) 0)]) (st := [vI (6), vR 235 (0)]) (ls0 := [some (vR 12 (0)), some (vI ((1 - z))), some (vI (gF G 12 (0) 0)), none, none]) r_12_saidOf_127 rfl rfl rfl (Nat.le_refl _) ?_
      refine sp_X12_brokenOf (by first | assumption | exact hsz | omega) (by first | assumption | exact hpr | omega) ?_
      refine pw_top (b := cnt (fun i => (gA G 224 (0) (i)) = (1 - z) ∧ ((gA G 227 (0) (i)) < (gF G 12 (0) 0) ∧ cnt (fun i1 => ((gA G 206 (0) (i1)) = 5 ∧ (gA G 205 (0) (i1)) = (gA G 224 (0) (i))) ∧ (gA G 226 (0) (i)) ≤ (gA G 213 (0) (i1)) ∧ (gA G 213 (0) (i1)) ≤ (gA G 227 (0) (i))) (gF G 12 (0) 17) < (gA G 225 (0) (i)))) (gF G 12 (0) 34)) (by first | rfl | simp (disch := decide) [gF_sF, gF_sA, gF_uA, gF_sD, gA_sF, gA_sA, gA_uA, gA_sD, gD_sF, gD_sA, gD_uA, gD_sD]) ?_
      refine pw_top (b := brM G (1 - z) (min d0 (gF G 12 0 0))) ((show brM G (1 - z) ((gF G 12 0 0)) = brM G (1 - z) (min d0 (gF G 12 0 0)) from congrArg (brM G (1 - z)) (by omega))) ?_
      refine pw_iast r_12_saidOf_130 sh235 (by omega) (by omega) ?_
      refine pw_aload r_12_saidOf_131 rfl ?_
      refine pw_getR r_12_saidOf_132 fs_12_49 (by decide) ?_
      refine pw_const r_12_saidOf_135 ?_
      refine pw_const r_12_saidOf_137 ?_
      refine pw_iast r_12_saidOf_138 sh235 (by omega) (by omega) ?_
      refine pw_aload r_12_saidOf_139 rfl ?_
      refine pw_getR r_12_saidOf_140 fs_12_49 (by decide) ?_
      refine pw_const r_12_saidOf_143 ?_
      refine pw_const r_12_saidOf_145 ?_
      refine pw_iast r_12_saidOf_146 sh235 (by omega) (by omega) ?_
      refine pw_const r_12_saidOf_147 ?_
      refine pw_istore (ls' := [some (vR 12 (0)), some (vI (t)), some (vI (p)), some (vI (z)), some (vI (d0)), some (vI (k)), some (vI (0)), none]) r_12_saidOf_148 rfl rfl ?_
      have L150 : ∀ (nF : Nat) (i : Int) (F : Int → Int), (hi : 0 ≤ i ∧ i ≤ (gF G 12 0 17)) → (hs : (gA G 206 0 (p)) ≠ 0 → i = 0) → (hF : ∀ j, 0 ≤ j → j < 7 → F j = valM G z p d0 k j) → (h7 : F 7 = ciM G (gA G 207 0 (p)) 0 i) → (h8 : F 8 = ciM G (gA G 207 0 (p)) 1 i) → ((gF G 12 0 17) - i).toNat < nF → PW l w M_X12_saidOf (d + 96) 150 [some (vR 12 (0)), some (vI (t)), some (vI (p)), some (vI (z)), some (vI (d0)), some (vI (k)), some (vI (i)), none] [] (uA G 235 (0) (F)) P := by
        intro nF
        induction nF with
        | zero => intro _ _ _ _ _ _ _ hM; exact absurd hM (Nat.not_lt_zero _)
        | succ nF ih150 =>
          intro i F hi hs hF h7 h8 hM150
          have hc7 : 0 ≤ ciM G (gA G 207 0 (p)) 0 i ∧ ciM G (gA G 207 0 (p)) 0 i ≤ i := cnt_le _ hi.1
          have hc8 : 0 ≤ ciM G (gA G 207 0 (p)) 1 i ∧ ciM G (gA G 207 0 (p)) 1 i ≤ i := cnt_le _ hi.1
          refine pw_iload r_12_saidOf_150 rfl ?_
          refine pw_aload r_12_saidOf_152 rfl ?_
          refine pw_getIv (v := gF G 12 (0) 17) r_12_saidOf_153 fs_12_17 (by decide) (by first | rfl | simp [gF_sF, gF_sA, gF_uA, gF_sD, gA_sF, gA_sA, gA_uA, gA_sD, gD_sF, gD_sA, gD_uA, gD_sD]) ?_
          refine pw_icmp_ge r_12_saidOf_156 (fun h156 => ?_) (fun h156 => ?_)
          · skip
            have h7v : F 7 = valM G z p d0 k 7 := by
              rw [h7]
              show ciM G (gA G 207 0 (p)) 0 i = if (gA G 206 0 (p)) = 0 then ciM G (gA G 207 0 (p)) 0 (gF G 12 0 17) else 0
              by_cases hst : (gA G 206 0 (p)) = 0
              · rw [if_pos hst, show i = (gF G 12 0 17) by omega]
              · rw [if_neg hst, show i = 0 from hs hst]; rfl
            have h8v : F 8 = valM G z p d0 k 8 := by
              rw [h8]
              show ciM G (gA G 207 0 (p)) 1 i = if (gA G 206 0 (p)) = 0 then ciM G (gA G 207 0 (p)) 1 (gF G 12 0 17) else 0
              by_cases hst : (gA G 206 0 (p)) = 0
              · rw [if_pos hst, show i = (gF G 12 0 17) by omega]
              · rw [if_neg hst, show i = 0 from hs hst]; rfl
            refine pw_aload r_12_saidOf_258 rfl ?_
            refine pw_const r_12_saidOf_259 ?_
            refine pw_iload r_12_saidOf_262 rfl ?_
            refine pw_imul r_12_saidOf_263 (by omega) ?_
            refine pw_aload r_12_saidOf_264 rfl ?_
            refine pw_getR r_12_saidOf_265 fs_12_38 (by decide) ?_
            refine pw_iload r_12_saidOf_268 rfl ?_
            refine pw_ialdv (v := gA G 230 (0) (t)) r_12_saidOf_269 sh230 (by omega) (by omega) (by first | rfl | simp [gF_sF, gF_sA, gF_uA, gF_sD, gA_sF, gA_sA, gA_uA, gA_sD, gD_sF, gD_sA, gD_uA, gD_sD]) ?_
            refine pw_callV (av := [vI ((160 * t)), vI (gA G 230 (0) (t))]) (st := []) (ls0 := [some (vR 12 (0)), some (vI ((160 * t))), some (vI (gA G 230 (0) (t))), none, none, none, none, none]) r_12_saidOf_270 rfl rfl rfl (Nat.le_refl _) ?_
            refine sp_X12_workOut (bs := (160 * t)) (n := (gA G 230 0 (t))) (b := (fun j => (gA G 229 0 (160 * t + j)))) (e := (valM G z p d0 k)) (by intro j _ _; rw [if_neg (by omega)]; rfl) (by omega) (by intro j j0 j9; show F j = _; rcases (show j < 7 ∨ j = 7 ∨ j = 8 by omega) with e | e | e; exact hF j j0 e; rw [e]; exact h7v; rw [e]; exact h8v) ((hTX t ht.1 ht.2).1) ?_ ?_
            · skip
              exact fun f1 v1 x1 l1 q1 _ _ => absurd (EvT_det q1 (hTX t ht.1 ht.2).2) (fun h => by cases h)
            · skip
              intro L1 q1
              refine pw_iret r_12_saidOf_273 rfl (Nat.le_refl _) ⟨rfl, ?_⟩
              have eL : L1 = lnM G t := Sum.inr.inj (EvT_det q1 (hTX t ht.1 ht.2).2)
              have hS9 : SD t z p d0 k = pick (valM G z p d0 k) (lnM G t) 0 := by rw [← hSD]; rfl
              rw [eL, ← hS9]
              exact hP (_, _, _, _, _, _, (SD t z p d0 k).1) rfl
          · skip
            refine pw_aload r_12_saidOf_159 rfl ?_
            refine pw_getR r_12_saidOf_160 fs_12_8 (by decide) ?_
            refine pw_iload r_12_saidOf_163 rfl ?_
            refine pw_ialdv (v := gA G 206 (0) (p)) r_12_saidOf_164 sh206 (by omega) (by omega) (by first | rfl | simp [gF_sF, gF_sA, gF_uA, gF_sD, gA_sF, gA_sA, gA_uA, gA_sD, gD_sF, gD_sA, gD_uA, gD_sD]) ?_
            refine pw_if_ne r_12_saidOf_165 (fun h165 => ?_) (fun h165 => ?_)
            · skip
              have h7v : F 7 = valM G z p d0 k 7 := by
                rw [h7]
                show ciM G (gA G 207 0 (p)) 0 i = if (gA G 206 0 (p)) = 0 then ciM G (gA G 207 0 (p)) 0 (gF G 12 0 17) else 0
                by_cases hst : (gA G 206 0 (p)) = 0
                · rw [if_pos hst, show i = (gF G 12 0 17) by omega]
                · rw [if_neg hst, show i = 0 from hs hst]; rfl
              have h8v : F 8 = valM G z p d0 k 8 := by
                rw [h8]
                show ciM G (gA G 207 0 (p)) 1 i = if (gA G 206 0 (p)) = 0 then ciM G (gA G 207 0 (p)) 1 (gF G 12 0 17) else 0
                by_cases hst : (gA G 206 0 (p)) = 0
                · rw [if_pos hst, show i = (gF G 12 0 17) by omega]
                · rw [if_neg hst, show i = 0 from hs hst]; rfl
              refine pw_aload r_12_saidOf_258 rfl ?_
              refine pw_const r_12_saidOf_259 ?_
              refine pw_iload r_12_saidOf_262 rfl ?_
              refine pw_imul r_12_saidOf_263 (by omega) ?_
              refine pw_aload r_12_saidOf_264 rfl ?_
              refine pw_getR r_12_saidOf_265 fs_12_38 (by decide) ?_
              refine pw_iload r_12_saidOf_268 rfl ?_
              refine pw_ialdv (v := gA G 230 (0) (t)) r_12_saidOf_269 sh230 (by omega) (by omega) (by first | rfl | simp [gF_sF, gF_sA, gF_uA, gF_sD, gA_sF, gA_sA, gA_uA, gA_sD, gD_sF, gD_sA, gD_uA, gD_sD]) ?_
              refine pw_callV (av := [vI ((160 * t)), vI (gA G 230 (0) (t))]) (st := []) (ls0 := [some (vR 12 (0)), some (vI ((160 * t))), some (vI (gA G 230 (0) (t))), none, none, none, none, none]) r_12_saidOf_270 rfl rfl rfl (Nat.le_refl _) ?_
              refine sp_X12_workOut (bs := (160 * t)) (n := (gA G 230 0 (t))) (b := (fun j => (gA G 229 0 (160 * t + j)))) (e := (valM G z p d0 k)) (by intro j _ _; rw [if_neg (by omega)]; rfl) (by omega) (by intro j j0 j9; show F j = _; rcases (show j < 7 ∨ j = 7 ∨ j = 8 by omega) with e | e | e; exact hF j j0 e; rw [e]; exact h7v; rw [e]; exact h8v) ((hTX t ht.1 ht.2).1) ?_ ?_
              · skip
                exact fun f1 v1 x1 l1 q1 _ _ => absurd (EvT_det q1 (hTX t ht.1 ht.2).2) (fun h => by cases h)
              · skip
                intro L1 q1
                refine pw_iret r_12_saidOf_273 rfl (Nat.le_refl _) ⟨rfl, ?_⟩
                have eL : L1 = lnM G t := Sum.inr.inj (EvT_det q1 (hTX t ht.1 ht.2).2)
                have hS9 : SD t z p d0 k = pick (valM G z p d0 k) (lnM G t) 0 := by rw [← hSD]; rfl
                rw [eL, ← hS9]
                exact hP (_, _, _, _, _, _, (SD t z p d0 k).1) rfl
            · skip
              refine pw_aload r_12_saidOf_168 rfl ?_
              refine pw_getR r_12_saidOf_169 fs_12_8 (by decide) ?_
              refine pw_iload r_12_saidOf_172 rfl ?_
              refine pw_ialdv (v := gA G 206 (0) (i)) r_12_saidOf_174 sh206 (by omega) (by omega) (by first | rfl | simp [gF_sF, gF_sA, gF_uA, gF_sD, gA_sF, gA_sA, gA_uA, gA_sD, gD_sF, gD_sA, gD_uA, gD_sD]) ?_
              refine pw_if_ne r_12_saidOf_175 (fun h175 => ?_) (fun h175 => ?_)
              · skip
                refine pw_const r_12_saidOf_198 ?_
                refine pw_istore (ls' := [some (vR 12 (0)), some (vI (t)), some (vI (p)), some (vI (z)), some (vI (d0)), some (vI (k)), some (vI (i)), some (vI (0))]) r_12_saidOf_199 rfl rfl ?_
                refine pw_aload r_12_saidOf_201 rfl ?_
                refine pw_getR r_12_saidOf_202 fs_12_49 (by decide) ?_
                refine pw_const r_12_saidOf_205 ?_
                refine pw_dup2 r_12_saidOf_207 rfl rfl ?_
                refine pw_ialdv (v := (F) (7)) r_12_saidOf_208 sh235 (by omega) (by omega) (by first | rfl | simp [gF_sF, gF_sA, gF_uA, gF_sD, gA_sF, gA_sA, gA_uA, gA_sD, gD_sF, gD_sA, gD_uA, gD_sD]) ?_
                refine pw_iload r_12_saidOf_209 rfl ?_
                refine pw_if_eq r_12_saidOf_211 (fun h211 => ?_) (fun h211 => absurd h211 (by decide))
                refine pw_const r_12_saidOf_218 ?_
                refine pw_iadd r_12_saidOf_219 (by omega) ?_
                refine pw_iast r_12_saidOf_220 sh235 (by omega) (by omega) ?_
                refine pw_aload r_12_saidOf_221 rfl ?_
                refine pw_getR r_12_saidOf_222 fs_12_49 (by decide) ?_
                refine pw_const r_12_saidOf_225 ?_
                refine pw_dup2 r_12_saidOf_227 rfl rfl ?_
                refine pw_ialdv (v := (F) (8)) r_12_saidOf_228 sh235 (by omega) (by omega) (by first | rfl | simp [gF_sF, gF_sA, gF_uA, gF_sD, gA_sF, gA_sA, gA_uA, gA_sD, gD_sF, gD_sA, gD_uA, gD_sD]) ?_
                refine pw_iload r_12_saidOf_229 rfl ?_
                refine pw_if_eq r_12_saidOf_231 (fun h231 => ?_) (fun h231 => absurd h231 (by decide))
                refine pw_const r_12_saidOf_249 ?_
                refine pw_iadd r_12_saidOf_250 (by omega) ?_
                refine pw_iast r_12_saidOf_251 sh235 (by omega) (by omega) ?_
                refine pw_iinc (b := 0) (ls' := [some (vR 12 (0)), some (vI (t)), some (vI (p)), some (vI (z)), some (vI (d0)), some (vI (k)), some (vI ((i + 1))), some (vI (0))]) r_12_saidOf_252 rfl rfl (by omega) rfl ?_
                refine pw_goto r_12_saidOf_255 ?_
                refine pw_weakL (ls' := [some (vR 12 (0)), some (vI (t)), some (vI (p)), some (vI (z)), some (vI (d0)), some (vI (k)), some (vI ((i + 1))), none]) (⟨rfl, ⟨rfl, ⟨rfl, ⟨rfl, ⟨rfl, ⟨rfl, ⟨rfl, trivial⟩⟩⟩⟩⟩⟩⟩) ?_
                refine pw_eqG (G' := uA G 235 (0) ((upA (upA F 7 (((F) (7)) + 0)) 8 (((F) (8)) + 0)))) (by rw [sA_uA, sA_uA]) ?_
                exact ih150 ((i + 1)) ((upA (upA F 7 (((F) (7)) + 0)) 8 (((F) (8)) + 0))) (by first | assumption | omega) (fun z => absurd z (by omega)) (fun j j0 j7 => by rw [upA_ne (by omega), upA_ne (by omega)]; exact hF j j0 j7) (by rw [upA_ne (by decide), upA_same]; rw [h7]; first | exact (cnt_t hi.1 (show (((gA G 206 0 (i)) = 0 ∧ (gA G 207 0 (i)) = (gA G 207 0 (p))) ∧ ((0 : Int) = 0 ∨ (gA G 204 0 (i)) = 3)) by omega)).symm | (rw [Int.add_zero]; exact (cnt_f hi.1 (show ¬ (((gA G 206 0 (i)) = 0 ∧ (gA G 207 0 (i)) = (gA G 207 0 (p))) ∧ ((0 : Int) = 0 ∨ (gA G 204 0 (i)) = 3)) by omega)).symm)) (by rw [upA_same]; rw [h8]; first | exact (cnt_t hi.1 (show (((gA G 206 0 (i)) = 0 ∧ (gA G 207 0 (i)) = (gA G 207 0 (p))) ∧ ((1 : Int) = 0 ∨ (gA G 204 0 (i)) = 3)) by omega)).symm | (rw [Int.add_zero]; exact (cnt_f hi.1 (show ¬ (((gA G 206 0 (i)) = 0 ∧ (gA G 207 0 (i)) = (gA G 207 0 (p))) ∧ ((1 : Int) = 0 ∨ (gA G 204 0 (i)) = 3)) by omega)).symm)) (by omega)
              · skip
                refine pw_aload r_12_saidOf_178 rfl ?_
                refine pw_getR r_12_saidOf_179 fs_12_9 (by decide) ?_
                refine pw_iload r_12_saidOf_182 rfl ?_
                refine pw_ialdv (v := gA G 207 (0) (i)) r_12_saidOf_184 sh207 (by omega) (by omega) (by first | rfl | simp [gF_sF, gF_sA, gF_uA, gF_sD, gA_sF, gA_sA, gA_uA, gA_sD, gD_sF, gD_sA, gD_uA, gD_sD]) ?_
                refine pw_aload r_12_saidOf_185 rfl ?_
                refine pw_getR r_12_saidOf_186 fs_12_9 (by decide) ?_
                refine pw_iload r_12_saidOf_189 rfl ?_
                refine pw_ialdv (v := gA G 207 (0) (p)) r_12_saidOf_190 sh207 (by omega) (by omega) (by first | rfl | simp [gF_sF, gF_sA, gF_uA, gF_sD, gA_sF, gA_sA, gA_uA, gA_sD, gD_sF, gD_sA, gD_uA, gD_sD]) ?_
                refine pw_icmp_ne r_12_saidOf_191 (fun h191 => ?_) (fun h191 => ?_)
                · skip
                  refine pw_const r_12_saidOf_198 ?_
                  refine pw_istore (ls' := [some (vR 12 (0)), some (vI (t)), some (vI (p)), some (vI (z)), some (vI (d0)), some (vI (k)), some (vI (i)), some (vI (0))]) r_12_saidOf_199 rfl rfl ?_
                  refine pw_aload r_12_saidOf_201 rfl ?_
                  refine pw_getR r_12_saidOf_202 fs_12_49 (by decide) ?_
                  refine pw_const r_12_saidOf_205 ?_
                  refine pw_dup2 r_12_saidOf_207 rfl rfl ?_
                  refine pw_ialdv (v := (F) (7)) r_12_saidOf_208 sh235 (by omega) (by omega) (by first | rfl | simp [gF_sF, gF_sA, gF_uA, gF_sD, gA_sF, gA_sA, gA_uA, gA_sD, gD_sF, gD_sA, gD_uA, gD_sD]) ?_
                  refine pw_iload r_12_saidOf_209 rfl ?_
                  refine pw_if_eq r_12_saidOf_211 (fun h211 => ?_) (fun h211 => absurd h211 (by decide))
                  refine pw_const r_12_saidOf_218 ?_
                  refine pw_iadd r_12_saidOf_219 (by omega) ?_
                  refine pw_iast r_12_saidOf_220 sh235 (by omega) (by omega) ?_
                  refine pw_aload r_12_saidOf_221 rfl ?_
                  refine pw_getR r_12_saidOf_222 fs_12_49 (by decide) ?_
                  refine pw_const r_12_saidOf_225 ?_
                  refine pw_dup2 r_12_saidOf_227 rfl rfl ?_
                  refine pw_ialdv (v := (F) (8)) r_12_saidOf_228 sh235 (by omega) (by omega) (by first | rfl | simp [gF_sF, gF_sA, gF_uA, gF_sD, gA_sF, gA_sA, gA_uA, gA_sD, gD_sF, gD_sA, gD_uA, gD_sD]) ?_
                  refine pw_iload r_12_saidOf_229 rfl ?_
                  refine pw_if_eq r_12_saidOf_231 (fun h231 => ?_) (fun h231 => absurd h231 (by decide))
                  refine pw_const r_12_saidOf_249 ?_
                  refine pw_iadd r_12_saidOf_250 (by omega) ?_
                  refine pw_iast r_12_saidOf_251 sh235 (by omega) (by omega) ?_
                  refine pw_iinc (b := 0) (ls' := [some (vR 12 (0)), some (vI (t)), some (vI (p)), some (vI (z)), some (vI (d0)), some (vI (k)), some (vI ((i + 1))), some (vI (0))]) r_12_saidOf_252 rfl rfl (by omega) rfl ?_
                  refine pw_goto r_12_saidOf_255 ?_
                  refine pw_weakL (ls' := [some (vR 12 (0)), some (vI (t)), some (vI (p)), some (vI (z)), some (vI (d0)), some (vI (k)), some (vI ((i + 1))), none]) (⟨rfl, ⟨rfl, ⟨rfl, ⟨rfl, ⟨rfl, ⟨rfl, ⟨rfl, trivial⟩⟩⟩⟩⟩⟩⟩) ?_
                  refine pw_eqG (G' := uA G 235 (0) ((upA (upA F 7 (((F) (7)) + 0)) 8 (((F) (8)) + 0)))) (by rw [sA_uA, sA_uA]) ?_
                  exact ih150 ((i + 1)) ((upA (upA F 7 (((F) (7)) + 0)) 8 (((F) (8)) + 0))) (by first | assumption | omega) (fun z => absurd z (by omega)) (fun j j0 j7 => by rw [upA_ne (by omega), upA_ne (by omega)]; exact hF j j0 j7) (by rw [upA_ne (by decide), upA_same]; rw [h7]; first | exact (cnt_t hi.1 (show (((gA G 206 0 (i)) = 0 ∧ (gA G 207 0 (i)) = (gA G 207 0 (p))) ∧ ((0 : Int) = 0 ∨ (gA G 204 0 (i)) = 3)) by omega)).symm | (rw [Int.add_zero]; exact (cnt_f hi.1 (show ¬ (((gA G 206 0 (i)) = 0 ∧ (gA G 207 0 (i)) = (gA G 207 0 (p))) ∧ ((0 : Int) = 0 ∨ (gA G 204 0 (i)) = 3)) by omega)).symm)) (by rw [upA_same]; rw [h8]; first | exact (cnt_t hi.1 (show (((gA G 206 0 (i)) = 0 ∧ (gA G 207 0 (i)) = (gA G 207 0 (p))) ∧ ((1 : Int) = 0 ∨ (gA G 204 0 (i)) = 3)) by omega)).symm | (rw [Int.add_zero]; exact (cnt_f hi.1 (show ¬ (((gA G 206 0 (i)) = 0 ∧ (gA G 207 0 (i)) = (gA G 207 0 (p))) ∧ ((1 : Int) = 0 ∨ (gA G 204 0 (i)) = 3)) by omega)).symm)) (by omega)
                · skip
                  refine pw_const r_12_saidOf_194 ?_
                  refine pw_goto r_12_saidOf_195 ?_
                  refine pw_istore (ls' := [some (vR 12 (0)), some (vI (t)), some (vI (p)), some (vI (z)), some (vI (d0)), some (vI (k)), some (vI (i)), some (vI (1))]) r_12_saidOf_199 rfl rfl ?_
                  refine pw_aload r_12_saidOf_201 rfl ?_
                  refine pw_getR r_12_saidOf_202 fs_12_49 (by decide) ?_
                  refine pw_const r_12_saidOf_205 ?_
                  refine pw_dup2 r_12_saidOf_207 rfl rfl ?_
                  refine pw_ialdv (v := (F) (7)) r_12_saidOf_208 sh235 (by omega) (by omega) (by first | rfl | simp [gF_sF, gF_sA, gF_uA, gF_sD, gA_sF, gA_sA, gA_uA, gA_sD, gD_sF, gD_sA, gD_uA, gD_sD]) ?_
                  refine pw_iload r_12_saidOf_209 rfl ?_
                  refine pw_if_eq r_12_saidOf_211 (fun h211 => absurd h211 (by decide)) (fun h211 => ?_)
                  refine pw_const r_12_saidOf_214 ?_
                  refine pw_goto r_12_saidOf_215 ?_
                  refine pw_iadd r_12_saidOf_219 (by omega) ?_
                  refine pw_iast r_12_saidOf_220 sh235 (by omega) (by omega) ?_
                  refine pw_aload r_12_saidOf_221 rfl ?_
                  refine pw_getR r_12_saidOf_222 fs_12_49 (by decide) ?_
                  refine pw_const r_12_saidOf_225 ?_
                  refine pw_dup2 r_12_saidOf_227 rfl rfl ?_
                  refine pw_ialdv (v := (F) (8)) r_12_saidOf_228 sh235 (by omega) (by omega) (by first | rfl | simp [gF_sF, gF_sA, gF_uA, gF_sD, gA_sF, gA_sA, gA_uA, gA_sD, gD_sF, gD_sA, gD_uA, gD_sD]) ?_
                  refine pw_iload r_12_saidOf_229 rfl ?_
                  refine pw_if_eq r_12_saidOf_231 (fun h231 => absurd h231 (by decide)) (fun h231 => ?_)
                  refine pw_aload r_12_saidOf_234 rfl ?_
                  refine pw_getR r_12_saidOf_235 fs_12_6 (by decide) ?_
                  refine pw_iload r_12_saidOf_238 rfl ?_
                  refine pw_ialdv (v := gA G 204 (0) (i)) r_12_saidOf_240 sh204 (by omega) (by omega) (by first | rfl | simp [gF_sF, gF_sA, gF_uA, gF_sD, gA_sF, gA_sA, gA_uA, gA_sD, gD_sF, gD_sA, gD_uA, gD_sD]) ?_
                  refine pw_const r_12_saidOf_241 ?_
                  refine pw_icmp_ne r_12_saidOf_242 (fun h242 => ?_) (fun h242 => ?_)
                  · skip
                    refine pw_const r_12_saidOf_249 ?_
                    refine pw_iadd r_12_saidOf_250 (by omega) ?_
                    refine pw_iast r_12_saidOf_251 sh235 (by omega) (by omega) ?_
                    refine pw_iinc (b := 0) (ls' := [some (vR 12 (0)), some (vI (t)), some (vI (p)), some (vI (z)), some (vI (d0)), some (vI (k)), some (vI ((i + 1))), some (vI (1))]) r_12_saidOf_252 rfl rfl (by omega) rfl ?_
                    refine pw_goto r_12_saidOf_255 ?_
                    refine pw_weakL (ls' := [some (vR 12 (0)), some (vI (t)), some (vI (p)), some (vI (z)), some (vI (d0)), some (vI (k)), some (vI ((i + 1))), none]) (⟨rfl, ⟨rfl, ⟨rfl, ⟨rfl, ⟨rfl, ⟨rfl, ⟨rfl, trivial⟩⟩⟩⟩⟩⟩⟩) ?_
                    refine pw_eqG (G' := uA G 235 (0) ((upA (upA F 7 (((F) (7)) + 1)) 8 (((F) (8)) + 0)))) (by rw [sA_uA, sA_uA]) ?_
                    exact ih150 ((i + 1)) ((upA (upA F 7 (((F) (7)) + 1)) 8 (((F) (8)) + 0))) (by first | assumption | omega) (fun z => absurd z (by omega)) (fun j j0 j7 => by rw [upA_ne (by omega), upA_ne (by omega)]; exact hF j j0 j7) (by rw [upA_ne (by decide), upA_same]; rw [h7]; first | exact (cnt_t hi.1 (show (((gA G 206 0 (i)) = 0 ∧ (gA G 207 0 (i)) = (gA G 207 0 (p))) ∧ ((0 : Int) = 0 ∨ (gA G 204 0 (i)) = 3)) by omega)).symm | (rw [Int.add_zero]; exact (cnt_f hi.1 (show ¬ (((gA G 206 0 (i)) = 0 ∧ (gA G 207 0 (i)) = (gA G 207 0 (p))) ∧ ((0 : Int) = 0 ∨ (gA G 204 0 (i)) = 3)) by omega)).symm)) (by rw [upA_same]; rw [h8]; first | exact (cnt_t hi.1 (show (((gA G 206 0 (i)) = 0 ∧ (gA G 207 0 (i)) = (gA G 207 0 (p))) ∧ ((1 : Int) = 0 ∨ (gA G 204 0 (i)) = 3)) by omega)).symm | (rw [Int.add_zero]; exact (cnt_f hi.1 (show ¬ (((gA G 206 0 (i)) = 0 ∧ (gA G 207 0 (i)) = (gA G 207 0 (p))) ∧ ((1 : Int) = 0 ∨ (gA G 204 0 (i)) = 3)) by omega)).symm)) (by omega)
                  · skip
                    refine pw_const r_12_saidOf_245 ?_
                    refine pw_goto r_12_saidOf_246 ?_
                    refine pw_iadd r_12_saidOf_250 (by omega) ?_
                    refine pw_iast r_12_saidOf_251 sh235 (by omega) (by omega) ?_
                    refine pw_iinc (b := 0) (ls' := [some (vR 12 (0)), some (vI (t)), some (vI (p)), some (vI (z)), some (vI (d0)), some (vI (k)), some (vI ((i + 1))), some (vI (1))]) r_12_saidOf_252 rfl rfl (by omega) rfl ?_
                    refine pw_goto r_12_saidOf_255 ?_
                    refine pw_weakL (ls' := [some (vR 12 (0)), some (vI (t)), some (vI (p)), some (vI (z)), some (vI (d0)), some (vI (k)), some (vI ((i + 1))), none]) (⟨rfl, ⟨rfl, ⟨rfl, ⟨rfl, ⟨rfl, ⟨rfl, ⟨rfl, trivial⟩⟩⟩⟩⟩⟩⟩) ?_
                    refine pw_eqG (G' := uA G 235 (0) ((upA (upA F 7 (((F) (7)) + 1)) 8 (((F) (8)) + 1)))) (by rw [sA_uA, sA_uA]) ?_
                    exact ih150 ((i + 1)) ((upA (upA F 7 (((F) (7)) + 1)) 8 (((F) (8)) + 1))) (by first | assumption | omega) (fun z => absurd z (by omega)) (fun j j0 j7 => by rw [upA_ne (by omega), upA_ne (by omega)]; exact hF j j0 j7) (by rw [upA_ne (by decide), upA_same]; rw [h7]; first | exact (cnt_t hi.1 (show (((gA G 206 0 (i)) = 0 ∧ (gA G 207 0 (i)) = (gA G 207 0 (p))) ∧ ((0 : Int) = 0 ∨ (gA G 204 0 (i)) = 3)) by omega)).symm | (rw [Int.add_zero]; exact (cnt_f hi.1 (show ¬ (((gA G 206 0 (i)) = 0 ∧ (gA G 207 0 (i)) = (gA G 207 0 (p))) ∧ ((0 : Int) = 0 ∨ (gA G 204 0 (i)) = 3)) by omega)).symm)) (by rw [upA_same]; rw [h8]; first | exact (cnt_t hi.1 (show (((gA G 206 0 (i)) = 0 ∧ (gA G 207 0 (i)) = (gA G 207 0 (p))) ∧ ((1 : Int) = 0 ∨ (gA G 204 0 (i)) = 3)) by omega)).symm | (rw [Int.add_zero]; exact (cnt_f hi.1 (show ¬ (((gA G 206 0 (i)) = 0 ∧ (gA G 207 0 (i)) = (gA G 207 0 (p))) ∧ ((1 : Int) = 0 ∨ (gA G 204 0 (i)) = 3)) by omega)).symm)) (by omega)
      refine pw_eqG (G' := uA G 235 (0) ((upA (upA (upA (upA (upA (upA (upA (upA (upA (fun j => gA G 235 (0) j) 0 (gA G 204 (0) (p))) 1 (kM G z p 0 k)) 2 (kM G z p 1 k)) 3 (kM G z p 2 k)) 4 (gA G 208 (0) (p))) 5 (max 0 (d0 - (gA G 212 0 (p))))) 6 (brM G (1 - z) (min d0 (gF G 12 0 0)))) 7 0) 8 0))) (by simp only [sA_eq G, sA_uA]) ?_
      exact L150 _ (0) ((upA (upA (upA (upA (upA (upA (upA (upA (upA (fun j => gA G 235 (0) j) 0 (gA G 204 (0) (p))) 1 (kM G z p 0 k)) 2 (kM G z p 1 k)) 3 (kM G z p 2 k)) 4 (gA G 208 (0) (p))) 5 (max 0 (d0 - (gA G 212 0 (p))))) 6 (brM G (1 - z) (min d0 (gF G 12 0 0)))) 7 0) 8 0)) (by first | assumption | omega) (fun _ => rfl) (by intro j j0 j7; rcases (show j = 0 ∨ j = 1 ∨ j = 2 ∨ j = 3 ∨ j = 4 ∨ j = 5 ∨ j = 6 by omega) with e | e | e | e | e | e | e <;> subst e <;> rfl) (rfl) (rfl) (Nat.lt_succ_self _)
    · skip
      refine pw_iload r_12_saidOf_118 rfl ?_
      refine pw_goto r_12_saidOf_120 ?_
      refine pw_callV (av := [vI ((1 - z)), vI (d0)]) (st := [vI (6), vR 235 (0)]) (ls0 := [some (vR 12 (0)), some (vI ((1 - z))), some (vI (d0)), none, none]) r_12_saidOf_127 rfl rfl rfl (Nat.le_refl _) ?_
      refine sp_X12_brokenOf (by first | assumption | exact hsz | omega) (by first | assumption | exact hpr | omega) ?_
      refine pw_top (b := cnt (fun i => (gA G 224 (0) (i)) = (1 - z) ∧ ((gA G 227 (0) (i)) < d0 ∧ cnt (fun i1 => ((gA G 206 (0) (i1)) = 5 ∧ (gA G 205 (0) (i1)) = (gA G 224 (0) (i))) ∧ (gA G 226 (0) (i)) ≤ (gA G 213 (0) (i1)) ∧ (gA G 213 (0) (i1)) ≤ (gA G 227 (0) (i))) (gF G 12 (0) 17) < (gA G 225 (0) (i)))) (gF G 12 (0) 34)) (by first | rfl | simp (disch := decide) [gF_sF, gF_sA, gF_uA, gF_sD, gA_sF, gA_sA, gA_uA, gA_sD, gD_sF, gD_sA, gD_uA, gD_sD]) ?_
      refine pw_top (b := brM G (1 - z) (min d0 (gF G 12 0 0))) ((show brM G (1 - z) (d0) = brM G (1 - z) (min d0 (gF G 12 0 0)) from congrArg (brM G (1 - z)) (by omega))) ?_
      refine pw_iast r_12_saidOf_130 sh235 (by omega) (by omega) ?_
      refine pw_aload r_12_saidOf_131 rfl ?_
      refine pw_getR r_12_saidOf_132 fs_12_49 (by decide) ?_
      refine pw_const r_12_saidOf_135 ?_
      refine pw_const r_12_saidOf_137 ?_
      refine pw_iast r_12_saidOf_138 sh235 (by omega) (by omega) ?_
      refine pw_aload r_12_saidOf_139 rfl ?_
      refine pw_getR r_12_saidOf_140 fs_12_49 (by decide) ?_
      refine pw_const r_12_saidOf_143 ?_
      refine pw_const r_12_saidOf_145 ?_
      refine pw_iast r_12_saidOf_146 sh235 (by omega) (by omega) ?_
      refine pw_const r_12_saidOf_147 ?_
      refine pw_istore (ls' := [some (vR 12 (0)), some (vI (t)), some (vI (p)), some (vI (z)), some (vI (d0)), some (vI (k)), some (vI (0)), none]) r_12_saidOf_148 rfl rfl ?_
      have L150 : ∀ (nF : Nat) (i : Int) (F : Int → Int), (hi : 0 ≤ i ∧ i ≤ (gF G 12 0 17)) → (hs : (gA G 206 0 (p)) ≠ 0 → i = 0) → (hF : ∀ j, 0 ≤ j → j < 7 → F j = valM G z p d0 k j) → (h7 : F 7 = ciM G (gA G 207 0 (p)) 0 i) → (h8 : F 8 = ciM G (gA G 207 0 (p)) 1 i) → ((gF G 12 0 17) - i).toNat < nF → PW l w M_X12_saidOf (d + 96) 150 [some (vR 12 (0)), some (vI (t)), some (vI (p)), some (vI (z)), some (vI (d0)), some (vI (k)), some (vI (i)), none] [] (uA G 235 (0) (F)) P := by
        intro nF
        induction nF with
        | zero => intro _ _ _ _ _ _ _ hM; exact absurd hM (Nat.not_lt_zero _)
        | succ nF ih150 =>
          intro i F hi hs hF h7 h8 hM150
          have hc7 : 0 ≤ ciM G (gA G 207 0 (p)) 0 i ∧ ciM G (gA G 207 0 (p)) 0 i ≤ i := cnt_le _ hi.1
          have hc8 : 0 ≤ ciM G (gA G 207 0 (p)) 1 i ∧ ciM G (gA G 207 0 (p)) 1 i ≤ i := cnt_le _ hi.1
          refine pw_iload r_12_saidOf_150 rfl ?_
          refine pw_aload r_12_saidOf_152 rfl ?_
          refine pw_getIv (v := gF G 12 (0) 17) r_12_saidOf_153 fs_12_17 (by decide) (by first | rfl | simp [gF_sF, gF_sA, gF_uA, gF_sD, gA_sF, gA_sA, gA_uA, gA_sD, gD_sF, gD_sA, gD_uA, gD_sD]) ?_
          refine pw_icmp_ge r_12_saidOf_156 (fun h156 => ?_) (fun h156 => ?_)
          · skip
            have h7v : F 7 = valM G z p d0 k 7 := by
              rw [h7]
              show ciM G (gA G 207 0 (p)) 0 i = if (gA G 206 0 (p)) = 0 then ciM G (gA G 207 0 (p)) 0 (gF G 12 0 17) else 0
              by_cases hst : (gA G 206 0 (p)) = 0
              · rw [if_pos hst, show i = (gF G 12 0 17) by omega]
              · rw [if_neg hst, show i = 0 from hs hst]; rfl
            have h8v : F 8 = valM G z p d0 k 8 := by
              rw [h8]
              show ciM G (gA G 207 0 (p)) 1 i = if (gA G 206 0 (p)) = 0 then ciM G (gA G 207 0 (p)) 1 (gF G 12 0 17) else 0
              by_cases hst : (gA G 206 0 (p)) = 0
              · rw [if_pos hst, show i = (gF G 12 0 17) by omega]
              · rw [if_neg hst, show i = 0 from hs hst]; rfl
            refine pw_aload r_12_saidOf_258 rfl ?_
            refine pw_const r_12_saidOf_259 ?_
            refine pw_iload r_12_saidOf_262 rfl ?_
            refine pw_imul r_12_saidOf_263 (by omega) ?_
            refine pw_aload r_12_saidOf_264 rfl ?_
            refine pw_getR r_12_saidOf_265 fs_12_38 (by decide) ?_
            refine pw_iload r_12_saidOf_268 rfl ?_
            refine pw_ialdv (v := gA G 230 (0) (t)) r_12_saidOf_269 sh230 (by omega) (by omega) (by first | rfl | simp [gF_sF, gF_sA, gF_uA, gF_sD, gA_sF, gA_sA, gA_uA, gA_sD, gD_sF, gD_sA, gD_uA, gD_sD]) ?_
            refine pw_callV (av := [vI ((160 * t)), vI (gA G 230 (0) (t))]) (st := []) (ls0 := [some (vR 12 (0)), some (vI ((160 * t))), some (vI (gA G 230 (0) (t))), none, none, none, none, none]) r_12_saidOf_270 rfl rfl rfl (Nat.le_refl _) ?_
            refine sp_X12_workOut (bs := (160 * t)) (n := (gA G 230 0 (t))) (b := (fun j => (gA G 229 0 (160 * t + j)))) (e := (valM G z p d0 k)) (by intro j _ _; rw [if_neg (by omega)]; rfl) (by omega) (by intro j j0 j9; show F j = _; rcases (show j < 7 ∨ j = 7 ∨ j = 8 by omega) with e | e | e; exact hF j j0 e; rw [e]; exact h7v; rw [e]; exact h8v) ((hTX t ht.1 ht.2).1) ?_ ?_
            · skip
              exact fun f1 v1 x1 l1 q1 _ _ => absurd (EvT_det q1 (hTX t ht.1 ht.2).2) (fun h => by cases h)
            · skip
              intro L1 q1
              refine pw_iret r_12_saidOf_273 rfl (Nat.le_refl _) ⟨rfl, ?_⟩
              have eL : L1 = lnM G t := Sum.inr.inj (EvT_det q1 (hTX t ht.1 ht.2).2)
              have hS9 : SD t z p d0 k = pick (valM G z p d0 k) (lnM G t) 0 := by rw [← hSD]; rfl
              rw [eL, ← hS9]
              exact hP (_, _, _, _, _, _, (SD t z p d0 k).1) rfl
          · skip
            refine pw_aload r_12_saidOf_159 rfl ?_
            refine pw_getR r_12_saidOf_160 fs_12_8 (by decide) ?_
            refine pw_iload r_12_saidOf_163 rfl ?_
            refine pw_ialdv (v := gA G 206 (0) (p)) r_12_saidOf_164 sh206 (by omega) (by omega) (by first | rfl | simp [gF_sF, gF_sA, gF_uA, gF_sD, gA_sF, gA_sA, gA_uA, gA_sD, gD_sF, gD_sA, gD_uA, gD_sD]) ?_
            refine pw_if_ne r_12_saidOf_165 (fun h165 => ?_) (fun h165 => ?_)
            · skip
              have h7v : F 7 = valM G z p d0 k 7 := by
                rw [h7]
                show ciM G (gA G 207 0 (p)) 0 i = if (gA G 206 0 (p)) = 0 then ciM G (gA G 207 0 (p)) 0 (gF G 12 0 17) else 0
                by_cases hst : (gA G 206 0 (p)) = 0
                · rw [if_pos hst, show i = (gF G 12 0 17) by omega]
                · rw [if_neg hst, show i = 0 from hs hst]; rfl
              have h8v : F 8 = valM G z p d0 k 8 := by
                rw [h8]
                show ciM G (gA G 207 0 (p)) 1 i = if (gA G 206 0 (p)) = 0 then ciM G (gA G 207 0 (p)) 1 (gF G 12 0 17) else 0
                by_cases hst : (gA G 206 0 (p)) = 0
                · rw [if_pos hst, show i = (gF G 12 0 17) by omega]
                · rw [if_neg hst, show i = 0 from hs hst]; rfl
              refine pw_aload r_12_saidOf_258 rfl ?_
              refine pw_const r_12_saidOf_259 ?_
              refine pw_iload r_12_saidOf_262 rfl ?_
              refine pw_imul r_12_saidOf_263 (by omega) ?_
              refine pw_aload r_12_saidOf_264 rfl ?_
              refine pw_getR r_12_saidOf_265 fs_12_38 (by decide) ?_
              refine pw_iload r_12_saidOf_268 rfl ?_
              refine pw_ialdv (v := gA G 230 (0) (t)) r_12_saidOf_269 sh230 (by omega) (by omega) (by first | rfl | simp [gF_sF, gF_sA, gF_uA, gF_sD, gA_sF, gA_sA, gA_uA, gA_sD, gD_sF, gD_sA, gD_uA, gD_sD]) ?_
              refine pw_callV (av := [vI ((160 * t)), vI (gA G 230 (0) (t))]) (st := []) (ls0 := [some (vR 12 (0)), some (vI ((160 * t))), some (vI (gA G 230 (0) (t))), none, none, none, none, none]) r_12_saidOf_270 rfl rfl rfl (Nat.le_refl _) ?_
              refine sp_X12_workOut (bs := (160 * t)) (n := (gA G 230 0 (t))) (b := (fun j => (gA G 229 0 (160 * t + j)))) (e := (valM G z p d0 k)) (by intro j _ _; rw [if_neg (by omega)]; rfl) (by omega) (by intro j j0 j9; show F j = _; rcases (show j < 7 ∨ j = 7 ∨ j = 8 by omega) with e | e | e; exact hF j j0 e; rw [e]; exact h7v; rw [e]; exact h8v) ((hTX t ht.1 ht.2).1) ?_ ?_
              · skip
                exact fun f1 v1 x1 l1 q1 _ _ => absurd (EvT_det q1 (hTX t ht.1 ht.2).2) (fun h => by cases h)
              · skip
                intro L1 q1
                refine pw_iret r_12_saidOf_273 rfl (Nat.le_refl _) ⟨rfl, ?_⟩
                have eL : L1 = lnM G t := Sum.inr.inj (EvT_det q1 (hTX t ht.1 ht.2).2)
                have hS9 : SD t z p d0 k = pick (valM G z p d0 k) (lnM G t) 0 := by rw [← hSD]; rfl
                rw [eL, ← hS9]
                exact hP (_, _, _, _, _, _, (SD t z p d0 k).1) rfl
            · skip
              refine pw_aload r_12_saidOf_168 rfl ?_
              refine pw_getR r_12_saidOf_169 fs_12_8 (by decide) ?_
              refine pw_iload r_12_saidOf_172 rfl ?_
              refine pw_ialdv (v := gA G 206 (0) (i)) r_12_saidOf_174 sh206 (by omega) (by omega) (by first | rfl | simp [gF_sF, gF_sA, gF_uA, gF_sD, gA_sF, gA_sA, gA_uA, gA_sD, gD_sF, gD_sA, gD_uA, gD_sD]) ?_
              refine pw_if_ne r_12_saidOf_175 (fun h175 => ?_) (fun h175 => ?_)
              · skip
                refine pw_const r_12_saidOf_198 ?_
                refine pw_istore (ls' := [some (vR 12 (0)), some (vI (t)), some (vI (p)), some (vI (z)), some (vI (d0)), some (vI (k)), some (vI (i)), some (vI (0))]) r_12_saidOf_199 rfl rfl ?_
                refine pw_aload r_12_saidOf_201 rfl ?_
                refine pw_getR r_12_saidOf_202 fs_12_49 (by decide) ?_
                refine pw_const r_12_saidOf_205 ?_
                refine pw_dup2 r_12_saidOf_207 rfl rfl ?_
                refine pw_ialdv (v := (F) (7)) r_12_saidOf_208 sh235 (by omega) (by omega) (by first | rfl | simp [gF_sF, gF_sA, gF_uA, gF_sD, gA_sF, gA_sA, gA_uA, gA_sD, gD_sF, gD_sA, gD_uA, gD_sD]) ?_
                refine pw_iload r_12_saidOf_209 rfl ?_
                refine pw_if_eq r_12_saidOf_211 (fun h211 => ?_) (fun h211 => absurd h211 (by decide))
                refine pw_const r_12_saidOf_218 ?_
                refine pw_iadd r_12_saidOf_219 (by omega) ?_
                refine pw_iast r_12_saidOf_220 sh235 (by omega) (by omega) ?_
                refine pw_aload r_12_saidOf_221 rfl ?_
                refine pw_getR r_12_saidOf_222 fs_12_49 (by decide) ?_
                refine pw_const r_12_saidOf_225 ?_
                refine pw_dup2 r_12_saidOf_227 rfl rfl ?_
                refine pw_ialdv (v := (F) (8)) r_12_saidOf_228 sh235 (by omega) (by omega) (by first | rfl | simp [gF_sF, gF_sA, gF_uA, gF_sD, gA_sF, gA_sA, gA_uA, gA_sD, gD_sF, gD_sA, gD_uA, gD_sD]) ?_
                refine pw_iload r_12_saidOf_229 rfl ?_
                refine pw_if_eq r_12_saidOf_231 (fun h231 => ?_) (fun h231 => absurd h231 (by decide))
                refine pw_const r_12_saidOf_249 ?_
                refine pw_iadd r_12_saidOf_250 (by omega) ?_
                refine pw_iast r_12_saidOf_251 sh235 (by omega) (by omega) ?_
                refine pw_iinc (b := 0) (ls' := [some (vR 12 (0)), some (vI (t)), some (vI (p)), some (vI (z)), some (vI (d0)), some (vI (k)), some (vI ((i + 1))), some (vI (0))]) r_12_saidOf_252 rfl rfl (by omega) rfl ?_
                refine pw_goto r_12_saidOf_255 ?_
                refine pw_weakL (ls' := [some (vR 12 (0)), some (vI (t)), some (vI (p)), some (vI (z)), some (vI (d0)), some (vI (k)), some (vI ((i + 1))), none]) (⟨rfl, ⟨rfl, ⟨rfl, ⟨rfl, ⟨rfl, ⟨rfl, ⟨rfl, trivial⟩⟩⟩⟩⟩⟩⟩) ?_
                refine pw_eqG (G' := uA G 235 (0) ((upA (upA F 7 (((F) (7)) + 0)) 8 (((F) (8)) + 0)))) (by rw [sA_uA, sA_uA]) ?_
                exact ih150 ((i + 1)) ((upA (upA F 7 (((F) (7)) + 0)) 8 (((F) (8)) + 0))) (by first | assumption | omega) (fun z => absurd z (by omega)) (fun j j0 j7 => by rw [upA_ne (by omega), upA_ne (by omega)]; exact hF j j0 j7) (by rw [upA_ne (by decide), upA_same]; rw [h7]; first | exact (cnt_t hi.1 (show (((gA G 206 0 (i)) = 0 ∧ (gA G 207 0 (i)) = (gA G 207 0 (p))) ∧ ((0 : Int) = 0 ∨ (gA G 204 0 (i)) = 3)) by omega)).symm | (rw [Int.add_zero]; exact (cnt_f hi.1 (show ¬ (((gA G 206 0 (i)) = 0 ∧ (gA G 207 0 (i)) = (gA G 207 0 (p))) ∧ ((0 : Int) = 0 ∨ (gA G 204 0 (i)) = 3)) by omega)).symm)) (by rw [upA_same]; rw [h8]; first | exact (cnt_t hi.1 (show (((gA G 206 0 (i)) = 0 ∧ (gA G 207 0 (i)) = (gA G 207 0 (p))) ∧ ((1 : Int) = 0 ∨ (gA G 204 0 (i)) = 3)) by omega)).symm | (rw [Int.add_zero]; exact (cnt_f hi.1 (show ¬ (((gA G 206 0 (i)) = 0 ∧ (gA G 207 0 (i)) = (gA G 207 0 (p))) ∧ ((1 : Int) = 0 ∨ (gA G 204 0 (i)) = 3)) by omega)).symm)) (by omega)
              · skip
                refine pw_aload r_12_saidOf_178 rfl ?_
                refine pw_getR r_12_saidOf_179 fs_12_9 (by decide) ?_
                refine pw_iload r_12_saidOf_182 rfl ?_
                refine pw_ialdv (v := gA G 207 (0) (i)) r_12_saidOf_184 sh207 (by omega) (by omega) (by first | rfl | simp [gF_sF, gF_sA, gF_uA, gF_sD, gA_sF, gA_sA, gA_uA, gA_sD, gD_sF, gD_sA, gD_uA, gD_sD]) ?_
                refine pw_aload r_12_saidOf_185 rfl ?_
                refine pw_getR r_12_saidOf_186 fs_12_9 (by decide) ?_
                refine pw_iload r_12_saidOf_189 rfl ?_
                refine pw_ialdv (v := gA G 207 (0) (p)) r_12_saidOf_190 sh207 (by omega) (by omega) (by first | rfl | simp [gF_sF, gF_sA, gF_uA, gF_sD, gA_sF, gA_sA, gA_uA, gA_sD, gD_sF, gD_sA, gD_uA, gD_sD]) ?_
                refine pw_icmp_ne r_12_saidOf_191 (fun h191 => ?_) (fun h191 => ?_)
                · skip
                  refine pw_const r_12_saidOf_198 ?_
                  refine pw_istore (ls' := [some (vR 12 (0)), some (vI (t)), some (vI (p)), some (vI (z)), some (vI (d0)), some (vI (k)), some (vI (i)), some (vI (0))]) r_12_saidOf_199 rfl rfl ?_
                  refine pw_aload r_12_saidOf_201 rfl ?_
                  refine pw_getR r_12_saidOf_202 fs_12_49 (by decide) ?_
                  refine pw_const r_12_saidOf_205 ?_
                  refine pw_dup2 r_12_saidOf_207 rfl rfl ?_
                  refine pw_ialdv (v := (F) (7)) r_12_saidOf_208 sh235 (by omega) (by omega) (by first | rfl | simp [gF_sF, gF_sA, gF_uA, gF_sD, gA_sF, gA_sA, gA_uA, gA_sD, gD_sF, gD_sA, gD_uA, gD_sD]) ?_
                  refine pw_iload r_12_saidOf_209 rfl ?_
                  refine pw_if_eq r_12_saidOf_211 (fun h211 => ?_) (fun h211 => absurd h211 (by decide))
                  refine pw_const r_12_saidOf_218 ?_
                  refine pw_iadd r_12_saidOf_219 (by omega) ?_
                  refine pw_iast r_12_saidOf_220 sh235 (by omega) (by omega) ?_
                  refine pw_aload r_12_saidOf_221 rfl ?_
                  refine pw_getR r_12_saidOf_222 fs_12_49 (by decide) ?_
                  refine pw_const r_12_saidOf_225 ?_
                  refine pw_dup2 r_12_saidOf_227 rfl rfl ?_
                  refine pw_ialdv (v := (F) (8)) r_12_saidOf_228 sh235 (by omega) (by omega) (by first | rfl | simp [gF_sF, gF_sA, gF_uA, gF_sD, gA_sF, gA_sA, gA_uA, gA_sD, gD_sF, gD_sA, gD_uA, gD_sD]) ?_
                  refine pw_iload r_12_saidOf_229 rfl ?_
                  refine pw_if_eq r_12_saidOf_231 (fun h231 => ?_) (fun h231 => absurd h231 (by decide))
                  refine pw_const r_12_saidOf_249 ?_
                  refine pw_iadd r_12_saidOf_250 (by omega) ?_
                  refine pw_iast r_12_saidOf_251 sh235 (by omega) (by omega) ?_
                  refine pw_iinc (b := 0) (ls' := [some (vR 12 (0)), some (vI (t)), some (vI (p)), some (vI (z)), some (vI (d0)), some (vI (k)), some (vI ((i + 1))), some (vI (0))]) r_12_saidOf_252 rfl rfl (by omega) rfl ?_
                  refine pw_goto r_12_saidOf_255 ?_
                  refine pw_weakL (ls' := [some (vR 12 (0)), some (vI (t)), some (vI (p)), some (vI (z)), some (vI (d0)), some (vI (k)), some (vI ((i + 1))), none]) (⟨rfl, ⟨rfl, ⟨rfl, ⟨rfl, ⟨rfl, ⟨rfl, ⟨rfl, trivial⟩⟩⟩⟩⟩⟩⟩) ?_
                  refine pw_eqG (G' := uA G 235 (0) ((upA (upA F 7 (((F) (7)) + 0)) 8 (((F) (8)) + 0)))) (by rw [sA_uA, sA_uA]) ?_
                  exact ih150 ((i + 1)) ((upA (upA F 7 (((F) (7)) + 0)) 8 (((F) (8)) + 0))) (by first | assumption | omega) (fun z => absurd z (by omega)) (fun j j0 j7 => by rw [upA_ne (by omega), upA_ne (by omega)]; exact hF j j0 j7) (by rw [upA_ne (by decide), upA_same]; rw [h7]; first | exact (cnt_t hi.1 (show (((gA G 206 0 (i)) = 0 ∧ (gA G 207 0 (i)) = (gA G 207 0 (p))) ∧ ((0 : Int) = 0 ∨ (gA G 204 0 (i)) = 3)) by omega)).symm | (rw [Int.add_zero]; exact (cnt_f hi.1 (show ¬ (((gA G 206 0 (i)) = 0 ∧ (gA G 207 0 (i)) = (gA G 207 0 (p))) ∧ ((0 : Int) = 0 ∨ (gA G 204 0 (i)) = 3)) by omega)).symm)) (by rw [upA_same]; rw [h8]; first | exact (cnt_t hi.1 (show (((gA G 206 0 (i)) = 0 ∧ (gA G 207 0 (i)) = (gA G 207 0 (p))) ∧ ((1 : Int) = 0 ∨ (gA G 204 0 (i)) = 3)) by omega)).symm | (rw [Int.add_zero]; exact (cnt_f hi.1 (show ¬ (((gA G 206 0 (i)) = 0 ∧ (gA G 207 0 (i)) = (gA G 207 0 (p))) ∧ ((1 : Int) = 0 ∨ (gA G 204 0 (i)) = 3)) by omega)).symm)) (by omega)
                · skip
                  refine pw_const r_12_saidOf_194 ?_
                  refine pw_goto r_12_saidOf_195 ?_
                  refine pw_istore (ls' := [some (vR 12 (0)), some (vI (t)), some (vI (p)), some (vI (z)), some (vI (d0)), some (vI (k)), some (vI (i)), some (vI (1))]) r_12_saidOf_199 rfl rfl ?_
                  refine pw_aload r_12_saidOf_201 rfl ?_
                  refine pw_getR r_12_saidOf_202 fs_12_49 (by decide) ?_
                  refine pw_const r_12_saidOf_205 ?_
                  refine pw_dup2 r_12_saidOf_207 rfl rfl ?_
                  refine pw_ialdv (v := (F) (7)) r_12_saidOf_208 sh235 (by omega) (by omega) (by first | rfl | simp [gF_sF, gF_sA, gF_uA, gF_sD, gA_sF, gA_sA, gA_uA, gA_sD, gD_sF, gD_sA, gD_uA, gD_sD]) ?_
                  refine pw_iload r_12_saidOf_209 rfl ?_
                  refine pw_if_eq r_12_saidOf_211 (fun h211 => absurd h211 (by decide)) (fun h211 => ?_)
                  refine pw_const r_12_saidOf_214 ?_
                  refine pw_goto r_12_saidOf_215 ?_
                  refine pw_iadd r_12_saidOf_219 (by omega) ?_
                  refine pw_iast r_12_saidOf_220 sh235 (by omega) (by omega) ?_
                  refine pw_aload r_12_saidOf_221 rfl ?_
                  refine pw_getR r_12_saidOf_222 fs_12_49 (by decide) ?_
                  refine pw_const r_12_saidOf_225 ?_
                  refine pw_dup2 r_12_saidOf_227 rfl rfl ?_
                  refine pw_ialdv (v := (F) (8)) r_12_saidOf_228 sh235 (by omega) (by omega) (by first | rfl | simp [gF_sF, gF_sA, gF_uA, gF_sD, gA_sF, gA_sA, gA_uA, gA_sD, gD_sF, gD_sA, gD_uA, gD_sD]) ?_
                  refine pw_iload r_12_saidOf_229 rfl ?_
                  refine pw_if_eq r_12_saidOf_231 (fun h231 => absurd h231 (by decide)) (fun h231 => ?_)
                  refine pw_aload r_12_saidOf_234 rfl ?_
                  refine pw_getR r_12_saidOf_235 fs_12_6 (by decide) ?_
                  refine pw_iload r_12_saidOf_238 rfl ?_
                  refine pw_ialdv (v := gA G 204 (0) (i)) r_12_saidOf_240 sh204 (by omega) (by omega) (by first | rfl | simp [gF_sF, gF_sA, gF_uA, gF_sD, gA_sF, gA_sA, gA_uA, gA_sD, gD_sF, gD_sA, gD_uA, gD_sD]) ?_
                  refine pw_const r_12_saidOf_241 ?_
                  refine pw_icmp_ne r_12_saidOf_242 (fun h242 => ?_) (fun h242 => ?_)
                  · skip
                    refine pw_const r_12_saidOf_249 ?_
                    refine pw_iadd r_12_saidOf_250 (by omega) ?_
                    refine pw_iast r_12_saidOf_251 sh235 (by omega) (by omega) ?_
                    refine pw_iinc (b := 0) (ls' := [some (vR 12 (0)), some (vI (t)), some (vI (p)), some (vI (z)), some (vI (d0)), some (vI (k)), some (vI ((i + 1))), some (vI (1))]) r_12_saidOf_252 rfl rfl (by omega) rfl ?_
                    refine pw_goto r_12_saidOf_255 ?_
                    refine pw_weakL (ls' := [some (vR 12 (0)), some (vI (t)), some (vI (p)), some (vI (z)), some (vI (d0)), some (vI (k)), some (vI ((i + 1))), none]) (⟨rfl, ⟨rfl, ⟨rfl, ⟨rfl, ⟨rfl, ⟨rfl, ⟨rfl, trivial⟩⟩⟩⟩⟩⟩⟩) ?_
                    refine pw_eqG (G' := uA G 235 (0) ((upA (upA F 7 (((F) (7)) + 1)) 8 (((F) (8)) + 0)))) (by rw [sA_uA, sA_uA]) ?_
                    exact ih150 ((i + 1)) ((upA (upA F 7 (((F) (7)) + 1)) 8 (((F) (8)) + 0))) (by first | assumption | omega) (fun z => absurd z (by omega)) (fun j j0 j7 => by rw [upA_ne (by omega), upA_ne (by omega)]; exact hF j j0 j7) (by rw [upA_ne (by decide), upA_same]; rw [h7]; first | exact (cnt_t hi.1 (show (((gA G 206 0 (i)) = 0 ∧ (gA G 207 0 (i)) = (gA G 207 0 (p))) ∧ ((0 : Int) = 0 ∨ (gA G 204 0 (i)) = 3)) by omega)).symm | (rw [Int.add_zero]; exact (cnt_f hi.1 (show ¬ (((gA G 206 0 (i)) = 0 ∧ (gA G 207 0 (i)) = (gA G 207 0 (p))) ∧ ((0 : Int) = 0 ∨ (gA G 204 0 (i)) = 3)) by omega)).symm)) (by rw [upA_same]; rw [h8]; first | exact (cnt_t hi.1 (show (((gA G 206 0 (i)) = 0 ∧ (gA G 207 0 (i)) = (gA G 207 0 (p))) ∧ ((1 : Int) = 0 ∨ (gA G 204 0 (i)) = 3)) by omega)).symm | (rw [Int.add_zero]; exact (cnt_f hi.1 (show ¬ (((gA G 206 0 (i)) = 0 ∧ (gA G 207 0 (i)) = (gA G 207 0 (p))) ∧ ((1 : Int) = 0 ∨ (gA G 204 0 (i)) = 3)) by omega)).symm)) (by omega)
                  · skip
                    refine pw_const r_12_saidOf_245 ?_
                    refine pw_goto r_12_saidOf_246 ?_
                    refine pw_iadd r_12_saidOf_250 (by omega) ?_
                    refine pw_iast r_12_saidOf_251 sh235 (by omega) (by omega) ?_
                    refine pw_iinc (b := 0) (ls' := [some (vR 12 (0)), some (vI (t)), some (vI (p)), some (vI (z)), some (vI (d0)), some (vI (k)), some (vI ((i + 1))), some (vI (1))]) r_12_saidOf_252 rfl rfl (by omega) rfl ?_
                    refine pw_goto r_12_saidOf_255 ?_
                    refine pw_weakL (ls' := [some (vR 12 (0)), some (vI (t)), some (vI (p)), some (vI (z)), some (vI (d0)), some (vI (k)), some (vI ((i + 1))), none]) (⟨rfl, ⟨rfl, ⟨rfl, ⟨rfl, ⟨rfl, ⟨rfl, ⟨rfl, trivial⟩⟩⟩⟩⟩⟩⟩) ?_
                    refine pw_eqG (G' := uA G 235 (0) ((upA (upA F 7 (((F) (7)) + 1)) 8 (((F) (8)) + 1)))) (by rw [sA_uA, sA_uA]) ?_
                    exact ih150 ((i + 1)) ((upA (upA F 7 (((F) (7)) + 1)) 8 (((F) (8)) + 1))) (by first | assumption | omega) (fun z => absurd z (by omega)) (fun j j0 j7 => by rw [upA_ne (by omega), upA_ne (by omega)]; exact hF j j0 j7) (by rw [upA_ne (by decide), upA_same]; rw [h7]; first | exact (cnt_t hi.1 (show (((gA G 206 0 (i)) = 0 ∧ (gA G 207 0 (i)) = (gA G 207 0 (p))) ∧ ((0 : Int) = 0 ∨ (gA G 204 0 (i)) = 3)) by omega)).symm | (rw [Int.add_zero]; exact (cnt_f hi.1 (show ¬ (((gA G 206 0 (i)) = 0 ∧ (gA G 207 0 (i)) = (gA G 207 0 (p))) ∧ ((0 : Int) = 0 ∨ (gA G 204 0 (i)) = 3)) by omega)).symm)) (by rw [upA_same]; rw [h8]; first | exact (cnt_t hi.1 (show (((gA G 206 0 (i)) = 0 ∧ (gA G 207 0 (i)) = (gA G 207 0 (p))) ∧ ((1 : Int) = 0 ∨ (gA G 204 0 (i)) = 3)) by omega)).symm | (rw [Int.add_zero]; exact (cnt_f hi.1 (show ¬ (((gA G 206 0 (i)) = 0 ∧ (gA G 207 0 (i)) = (gA G 207 0 (p))) ∧ ((1 : Int) = 0 ∨ (gA G 204 0 (i)) = 3)) by omega)).symm)) (by omega)
      refine pw_eqG (G' := uA G 235 (0) ((upA (upA (upA (upA (upA (upA (upA (upA (upA (fun j => gA G 235 (0) j) 0 (gA G 204 (0) (p))) 1 (kM G z p 0 k)) 2 (kM G z p 1 k)) 3 (kM G z p 2 k)) 4 (gA G 208 (0) (p))) 5 (max 0 (d0 - (gA G 212 0 (p))))) 6 (brM G (1 - z) (min d0 (gF G 12 0 0)))) 7 0) 8 0))) (by simp only [sA_eq G, sA_uA]) ?_
      exact L150 _ (0) ((upA (upA (upA (upA (upA (upA (upA (upA (upA (fun j => gA G 235 (0) j) 0 (gA G 204 (0) (p))) 1 (kM G z p 0 k)) 2 (kM G z p 1 k)) 3 (kM G z p 2 k)) 4 (gA G 208 (0) (p))) 5 (max 0 (d0 - (gA G 212 0 (p))))) 6 (brM G (1 - z) (min d0 (gF G 12 0 0)))) 7 0) 8 0)) (by first | assumption | omega) (fun _ => rfl) (by intro j j0 j7; rcases (show j = 0 ∨ j = 1 ∨ j = 2 ∨ j = 3 ∨ j = 4 ∨ j = 5 ∨ j = 6 by omega) with e | e | e | e | e | e | e <;> subst e <;> rfl) (rfl) (rfl) (Nat.lt_succ_self _)
set_option maxRecDepth 10000 in
theorem sp_X12_mayStayOn {l : Launch} {w : Wo} {d : Nat} {G : PH} {P : Option PV → PH → Prop} {p d0 k : Int} {ST : Int → Int → Int → Prop} {SD : Int → Int → Int → Int → Int → Int × Int} {FC : Int → Int → Int → Int} {KC : Int → Int → Int → Int → Int} (hsz : 0 ≤ (gF G 12 0 17) ∧ (gF G 12 0 17) ≤ 150) (hf : 0 ≤ (gF G 12 0 27) ∧ (gF G 12 0 27) ≤ 300) (hlt : 0 ≤ (gF G 12 0 29) ∧ (gF G 12 0 29) ≤ 60) (hofs : ∀ i, 0 ≤ i → i < (gF G 12 0 27) → 0 ≤ (gA G 219 0 (i)) ∧ (gA G 219 0 (i)) < 150) (hsent : ∀ l, 0 ≤ l → l < (gF G 12 0 29) → 0 ≤ (gA G 223 0 (l)) ∧ (gA G 223 0 (l)) ≤ 600) (hpr : 0 ≤ (gF G 12 0 34) ∧ (gF G 12 0 34) ≤ 40) (htx : 0 ≤ (gF G 12 0 42) ∧ (gF G 12 0 42) ≤ 20) (hTX : txM G) (hSD : sdM G = SD) (hFC : fcM G = FC) (hKC : kM G = KC) (hcA : ∀ i, 0 ≤ i → i < (gF G 12 0 17) → 0 ≤ (gA G 212 0 (i)) ∧ (gA G 212 0 (i)) ≤ 600) (hsA : ∀ i, 0 ≤ i → i < (gF G 12 0 17) → 0 ≤ (gA G 205 0 (i)) ∧ (gA G 205 0 (i)) ≤ 1) (hpv : 0 ≤ p ∧ p < (gF G 12 0 17)) (hd0 : 0 ≤ d0 ∧ d0 ≤ 600) (hST : stM G = ST) (hP : ∀ q : RQm, P (some (vI (b2i (ST p d0 k)))) (rstM G q)) : PW l w M_X12_mayStayOn (d + 98) 0 [some (vR 12 (0)), some (vI (p)), some (vI (d0)), some (vI (k)), none] [] G P := by
  have hFb : ∀ u a b, FC u a b < (gF G 12 0 42) := fun u a b => by rw [← hFC]; have := fcM_lt (G := G) htx.1 u a b; omega
  have eS : ST p d0 k ↔ (KC (gA G 205 0 (p)) p 1 k ≠ 0 ∧ ((0 ≤ FC 11 d0 k ∧ (SD (FC 11 d0 k) (gA G 205 0 (p)) p d0 k).2 ≠ 0) ∨ (FC 11 d0 k < 0 ∧ 0 ≤ FC 1 d0 k ∧ (SD (FC 1 d0 k) (gA G 205 0 (p)) p d0 k).2 ≠ 0))) := by rw [← hST, ← hKC, ← hFC, ← hSD]; exact Iff.rfl
  refine pw_aload r_12_mayStayOn_0 rfl ?_
  refine pw_aload r_12_mayStayOn_1 rfl ?_
  refine pw_getR r_12_mayStayOn_2 fs_12_7 (by decide) ?_
  refine pw_iload r_12_mayStayOn_5 rfl ?_
  refine pw_iald r_12_mayStayOn_6 sh205 (by omega) (by omega) ?_
  refine pw_iload r_12_mayStayOn_7 rfl ?_
  refine pw_const r_12_mayStayOn_8 ?_
  refine pw_iload r_12_mayStayOn_9 rfl ?_
  refine pw_callV (av := [vI (gA G 205 (0) (p)), vI (p), vI (1), vI (k)]) (st := []) (ls0 := [some (vR 12 (0)), some (vI (gA G 205 (0) (p))), some (vI (p)), some (vI (1)), some (vI (k)), none, none]) r_12_mayStayOn_10 rfl rfl rfl (Nat.le_refl _) ?_
  refine sp_X12_knownTo (by first | assumption | exact hf | omega) (by first | assumption | exact hlt | omega) (by first | assumption | exact hofs | omega) (by first | assumption | exact hsent | omega) ?_
  refine pw_top (b := KC (gA G 205 0 (p)) p 1 k) ((show kM G (gA G 205 0 (p)) p 1 k = KC (gA G 205 0 (p)) p 1 k by rw [hKC])) ?_
  refine pw_if_ne r_12_mayStayOn_13 (fun h13 => ?_) (fun h13 => ?_)
  · skip
    refine pw_aload r_12_mayStayOn_18 rfl ?_
    refine pw_const r_12_mayStayOn_19 ?_
    refine pw_iload r_12_mayStayOn_21 rfl ?_
    refine pw_iload r_12_mayStayOn_22 rfl ?_
    refine pw_callV (av := [vI (11), vI (d0), vI (k)]) (st := []) (ls0 := [some (vR 12 (0)), some (vI (11)), some (vI (d0)), some (vI (k)), none, none]) r_12_mayStayOn_23 rfl rfl rfl (Nat.le_refl _) ?_
    refine sp_X12_force (by first | assumption | exact htx | omega) ?_
    refine pw_top (b := FC (11) d0 k) ((show fcM G (11) d0 k = FC (11) d0 k by rw [hFC])) ?_
    refine pw_istore (ls' := [some (vR 12 (0)), some (vI (p)), some (vI (d0)), some (vI (k)), some (vI (FC (11) d0 k))]) r_12_mayStayOn_26 rfl rfl ?_
    refine pw_iload r_12_mayStayOn_28 rfl ?_
    refine pw_if_ge r_12_mayStayOn_30 (fun h30 => ?_) (fun h30 => ?_)
    · skip
      refine pw_iload r_12_mayStayOn_43 rfl ?_
      refine pw_istore (ls' := [some (vR 12 (0)), some (vI (p)), some (vI (d0)), some (vI (k)), some (vI (FC (11) d0 k))]) r_12_mayStayOn_45 rfl rfl ?_
      refine pw_iload r_12_mayStayOn_47 rfl ?_
      refine pw_if_lt r_12_mayStayOn_49 (fun h49 => ?_) (fun h49 => ?_)
      · skip
        refine pw_const r_12_mayStayOn_74 ?_
        refine pw_zret r_12_mayStayOn_75 rfl (Or.inl rfl) (Nat.le_refl _) ⟨rfl, ?_⟩
        have h9 := hP (rstN G)
        rw [rstM_self] at h9
        exact pe h9 (by first | exact (b2i_t (by rw [eS]; omega)).symm | exact (b2i_f (by rw [eS]; omega)).symm)
      · skip
        refine pw_aload r_12_mayStayOn_52 rfl ?_
        refine pw_iload r_12_mayStayOn_53 rfl ?_
        refine pw_iload r_12_mayStayOn_55 rfl ?_
        refine pw_aload r_12_mayStayOn_56 rfl ?_
        refine pw_getR r_12_mayStayOn_57 fs_12_7 (by decide) ?_
        refine pw_iload r_12_mayStayOn_60 rfl ?_
        refine pw_iald r_12_mayStayOn_61 sh205 (by omega) (by omega) ?_
        refine pw_iload r_12_mayStayOn_62 rfl ?_
        refine pw_iload r_12_mayStayOn_63 rfl ?_
        refine pw_callV (av := [vI (FC (11) d0 k), vI (p), vI (gA G 205 (0) (p)), vI (d0), vI (k)]) (st := []) (ls0 := [some (vR 12 (0)), some (vI (FC (11) d0 k)), some (vI (p)), some (vI (gA G 205 (0) (p))), some (vI (d0)), some (vI (k)), none, none]) r_12_mayStayOn_64 rfl rfl rfl (Nat.le_refl _) ?_
        refine sp_X12_saidOf (SD := SD) (FC := FC) (KC := KC) (t := (FC (11) d0 k)) (p := p) (z := (gA G 205 0 (p))) (by exact hsz) (by exact hf) (by exact hlt) (by exact hofs) (by exact hsent) (by exact hpr) (by exact htx) (by exact hTX) (by exact hSD) (by exact hFC) (by exact hKC) (by first | omega | (show 0 ≤ p ∧ p < (gF G 12 0 17); omega)) (by exact hcA p (by omega) (by omega)) (by exact hsA p (by omega) (by omega)) (by omega) (⟨by omega, by exact hFb _ _ _⟩) ?_
        intro q1 q2
        refine pw_if_eq r_12_mayStayOn_67 (fun h67 => ?_) (fun h67 => ?_)
        · skip
          refine pw_const r_12_mayStayOn_74 ?_
          refine pw_zret r_12_mayStayOn_75 rfl (Or.inl rfl) (Nat.le_refl _) ⟨rfl, ?_⟩
          have h9 := hP q1
          exact pe h9 (by first | exact (b2i_t (by rw [eS]; omega)).symm | exact (b2i_f (by rw [eS]; omega)).symm)
        · skip
          refine pw_const r_12_mayStayOn_70 ?_
          refine pw_goto r_12_mayStayOn_71 ?_
          refine pw_zret r_12_mayStayOn_75 rfl (Or.inr rfl) (Nat.le_refl _) ⟨rfl, ?_⟩
          have h9 := hP q1
          exact pe h9 (by first | exact (b2i_t (by rw [eS]; omega)).symm | exact (b2i_f (by rw [eS]; omega)).symm)
    · skip
      refine pw_aload r_12_mayStayOn_33 rfl ?_
      refine pw_const r_12_mayStayOn_34 ?_
      refine pw_iload r_12_mayStayOn_35 rfl ?_
      refine pw_iload r_12_mayStayOn_36 rfl ?_
      refine pw_callV (av := [vI (1), vI (d0), vI (k)]) (st := []) (ls0 := [some (vR 12 (0)), some (vI (1)), some (vI (d0)), some (vI (k)), none, none]) r_12_mayStayOn_37 rfl rfl rfl (Nat.le_refl _) ?_
      refine sp_X12_force (by first | assumption | exact htx | omega) ?_
      refine pw_top (b := FC (1) d0 k) ((show fcM G (1) d0 k = FC (1) d0 k by rw [hFC])) ?_
      refine pw_goto r_12_mayStayOn_40 ?_
      refine pw_istore (ls' := [some (vR 12 (0)), some (vI (p)), some (vI (d0)), some (vI (k)), some (vI (FC (1) d0 k))]) r_12_mayStayOn_45 rfl rfl ?_
      refine pw_iload r_12_mayStayOn_47 rfl ?_
      refine pw_if_lt r_12_mayStayOn_49 (fun h49 => ?_) (fun h49 => ?_)
      · skip
        refine pw_const r_12_mayStayOn_74 ?_
        refine pw_zret r_12_mayStayOn_75 rfl (Or.inl rfl) (Nat.le_refl _) ⟨rfl, ?_⟩
        have h9 := hP (rstN G)
        rw [rstM_self] at h9
        exact pe h9 (by first | exact (b2i_t (by rw [eS]; omega)).symm | exact (b2i_f (by rw [eS]; omega)).symm)
      · skip
        refine pw_aload r_12_mayStayOn_52 rfl ?_
        refine pw_iload r_12_mayStayOn_53 rfl ?_
        refine pw_iload r_12_mayStayOn_55 rfl ?_
        refine pw_aload r_12_mayStayOn_56 rfl ?_
        refine pw_getR r_12_mayStayOn_57 fs_12_7 (by decide) ?_
        refine pw_iload r_12_mayStayOn_60 rfl ?_
        refine pw_iald r_12_mayStayOn_61 sh205 (by omega) (by omega) ?_
        refine pw_iload r_12_mayStayOn_62 rfl ?_
        refine pw_iload r_12_mayStayOn_63 rfl ?_
        refine pw_callV (av := [vI (FC (1) d0 k), vI (p), vI (gA G 205 (0) (p)), vI (d0), vI (k)]) (st := []) (ls0 := [some (vR 12 (0)), some (vI (FC (1) d0 k)), some (vI (p)), some (vI (gA G 205 (0) (p))), some (vI (d0)), some (vI (k)), none, none]) r_12_mayStayOn_64 rfl rfl rfl (Nat.le_refl _) ?_
        refine sp_X12_saidOf (SD := SD) (FC := FC) (KC := KC) (t := (FC (1) d0 k)) (p := p) (z := (gA G 205 0 (p))) (by exact hsz) (by exact hf) (by exact hlt) (by exact hofs) (by exact hsent) (by exact hpr) (by exact htx) (by exact hTX) (by exact hSD) (by exact hFC) (by exact hKC) (by first | omega | (show 0 ≤ p ∧ p < (gF G 12 0 17); omega)) (by exact hcA p (by omega) (by omega)) (by exact hsA p (by omega) (by omega)) (by omega) (⟨by omega, by exact hFb _ _ _⟩) ?_
        intro q1 q2
        refine pw_if_eq r_12_mayStayOn_67 (fun h67 => ?_) (fun h67 => ?_)
        · skip
          refine pw_const r_12_mayStayOn_74 ?_
          refine pw_zret r_12_mayStayOn_75 rfl (Or.inl rfl) (Nat.le_refl _) ⟨rfl, ?_⟩
          have h9 := hP q1
          exact pe h9 (by first | exact (b2i_t (by rw [eS]; omega)).symm | exact (b2i_f (by rw [eS]; omega)).symm)
        · skip
          refine pw_const r_12_mayStayOn_70 ?_
          refine pw_goto r_12_mayStayOn_71 ?_
          refine pw_zret r_12_mayStayOn_75 rfl (Or.inr rfl) (Nat.le_refl _) ⟨rfl, ?_⟩
          have h9 := hP q1
          exact pe h9 (by first | exact (b2i_t (by rw [eS]; omega)).symm | exact (b2i_f (by rw [eS]; omega)).symm)
  · skip
    refine pw_const r_12_mayStayOn_16 ?_
    refine pw_zret r_12_mayStayOn_17 rfl (Or.inl rfl) (Nat.le_refl _) ⟨rfl, ?_⟩
    have h9 := hP (rstN G)
    rw [rstM_self] at h9
    exact pe h9 (by first | exact (b2i_t (by rw [eS]; omega)).symm | exact (b2i_f (by rw [eS]; omega)).symm)
set_option maxRecDepth 10000 in
theorem sp_X12_worthOf {l : Launch} {w : Wo} {d : Nat} {G : PH} {P : Option PV → PH → Prop} {p z d0 k : Int} {WT : Int → Int → Int → Int → Int} {SD : Int → Int → Int → Int → Int → Int × Int} {FC : Int → Int → Int → Int} {KC : Int → Int → Int → Int → Int} (hsz : 0 ≤ (gF G 12 0 17) ∧ (gF G 12 0 17) ≤ 150) (hf : 0 ≤ (gF G 12 0 27) ∧ (gF G 12 0 27) ≤ 300) (hlt : 0 ≤ (gF G 12 0 29) ∧ (gF G 12 0 29) ≤ 60) (hofs : ∀ i, 0 ≤ i → i < (gF G 12 0 27) → 0 ≤ (gA G 219 0 (i)) ∧ (gA G 219 0 (i)) < 150) (hsent : ∀ l, 0 ≤ l → l < (gF G 12 0 29) → 0 ≤ (gA G 223 0 (l)) ∧ (gA G 223 0 (l)) ≤ 600) (hpr : 0 ≤ (gF G 12 0 34) ∧ (gF G 12 0 34) ≤ 40) (htx : 0 ≤ (gF G 12 0 42) ∧ (gF G 12 0 42) ≤ 20) (hTX : txM G) (hSD : sdM G = SD) (hFC : fcM G = FC) (hKC : kM G = KC) (hcA : ∀ i, 0 ≤ i → i < (gF G 12 0 17) → 0 ≤ (gA G 212 0 (i)) ∧ (gA G 212 0 (i)) ≤ 600) (hsA : ∀ i, 0 ≤ i → i < (gF G 12 0 17) → 0 ≤ (gA G 205 0 (i)) ∧ (gA G 205 0 (i)) ≤ 1) (hpv : 0 ≤ p ∧ p < (gF G 12 0 17)) (hz : 0 ≤ z ∧ z ≤ 1) (hd0 : 0 ≤ d0 ∧ d0 ≤ 600) (hWT : wtM G = WT) (hP : ∀ q : RQm, P (some (vI (WT p z d0 k))) (rstM G q)) : PW l w M_X12_worthOf (d + 98) 0 [some (vR 12 (0)), some (vI (p)), some (vI (z)), some (vI (d0)), some (vI (k)), none, none] [] G P := by
  have hFb : ∀ u a b, FC u a b < (gF G 12 0 42) := fun u a b => by rw [← hFC]; have := fcM_lt (G := G) htx.1 u a b; omega
  have eW : WT p z d0 k = if FC (10 * (2 + z) + 2) d0 k < 0 then 1 else max 0 (min 999 (SD (FC (10 * (2 + z) + 2) d0 k) z p d0 k).2) := by rw [← hWT, ← hFC, ← hSD]; rfl
  refine pw_aload r_12_worthOf_0 rfl ?_
  refine pw_const r_12_worthOf_1 ?_
  refine pw_const r_12_worthOf_3 ?_
  refine pw_iload r_12_worthOf_4 rfl ?_
  refine pw_iadd r_12_worthOf_5 (by omega) ?_
  refine pw_imul r_12_worthOf_6 (by omega) ?_
  refine pw_const r_12_worthOf_7 ?_
  refine pw_iadd r_12_worthOf_8 (by omega) ?_
  refine pw_iload r_12_worthOf_9 rfl ?_
  refine pw_iload r_12_worthOf_10 rfl ?_
  refine pw_callV (av := [vI (((10 * (2 + z)) + 2)), vI (d0), vI (k)]) (st := []) (ls0 := [some (vR 12 (0)), some (vI (((10 * (2 + z)) + 2))), some (vI (d0)), some (vI (k)), none, none]) r_12_worthOf_12 rfl rfl rfl (Nat.le_refl _) ?_
  refine sp_X12_force (by first | assumption | exact htx | omega) ?_
  refine pw_top (b := FC (10 * (2 + z) + 2) d0 k) ((show fcM G (10 * (2 + z) + 2) d0 k = FC (10 * (2 + z) + 2) d0 k by rw [hFC])) ?_
  refine pw_istore (ls' := [some (vR 12 (0)), some (vI (p)), some (vI (z)), some (vI (d0)), some (vI (k)), some (vI (FC (10 * (2 + z) + 2) d0 k)), none]) r_12_worthOf_15 rfl rfl ?_
  refine pw_iload r_12_worthOf_17 rfl ?_
  refine pw_if_ge r_12_worthOf_19 (fun h19 => ?_) (fun h19 => ?_)
  · skip
    refine pw_aload r_12_worthOf_24 rfl ?_
    refine pw_iload r_12_worthOf_25 rfl ?_
    refine pw_iload r_12_worthOf_27 rfl ?_
    refine pw_iload r_12_worthOf_28 rfl ?_
    refine pw_iload r_12_worthOf_29 rfl ?_
    refine pw_iload r_12_worthOf_30 rfl ?_
    refine pw_callV (av := [vI (FC (10 * (2 + z) + 2) d0 k), vI (p), vI (z), vI (d0), vI (k)]) (st := []) (ls0 := [some (vR 12 (0)), some (vI (FC (10 * (2 + z) + 2) d0 k)), some (vI (p)), some (vI (z)), some (vI (d0)), some (vI (k)), none, none]) r_12_worthOf_32 rfl rfl rfl (Nat.le_refl _) ?_
    refine sp_X12_saidOf (SD := SD) (FC := FC) (KC := KC) (t := (FC (10 * (2 + z) + 2) d0 k)) (p := p) (z := z) (by exact hsz) (by exact hf) (by exact hlt) (by exact hofs) (by exact hsent) (by exact hpr) (by exact htx) (by exact hTX) (by exact hSD) (by exact hFC) (by exact hKC) (by first | omega | (show 0 ≤ p ∧ p < (gF G 12 0 17); omega)) (by exact hcA p (by omega) (by omega)) (by first | omega | exact hsA p (by omega) (by omega)) (by omega) (⟨by omega, by exact hFb _ _ _⟩) ?_
    intro q1 q2
    refine pw_istore (ls' := [some (vR 12 (0)), some (vI (p)), some (vI (z)), some (vI (d0)), some (vI (k)), some (vI (FC (10 * (2 + z) + 2) d0 k)), some (vI ((SD (FC (10 * (2 + z) + 2) d0 k) z p d0 k).2))]) r_12_worthOf_35 rfl rfl ?_
    refine pw_iload r_12_worthOf_37 rfl ?_
    refine pw_if_ge r_12_worthOf_39 (fun h39 => ?_) (fun h39 => ?_)
    · skip
      refine pw_iload r_12_worthOf_46 rfl ?_
      refine pw_const r_12_worthOf_48 ?_
      refine pw_icmp_le r_12_worthOf_51 (fun h51 => ?_) (fun h51 => ?_)
      · skip
        refine pw_iload r_12_worthOf_60 rfl ?_
        refine pw_iret r_12_worthOf_62 rfl (Nat.le_refl _) ⟨rfl, ?_⟩
        have h9 := hP q1
        exact pe h9 (by rw [eW]; first | exact (if_pos (by omega)).symm | (rw [if_neg (by omega)]; omega))
      · skip
        refine pw_const r_12_worthOf_54 ?_
        refine pw_goto r_12_worthOf_57 ?_
        refine pw_iret r_12_worthOf_62 rfl (Nat.le_refl _) ⟨rfl, ?_⟩
        have h9 := hP q1
        exact pe h9 (by rw [eW]; first | exact (if_pos (by omega)).symm | (rw [if_neg (by omega)]; omega))
    · skip
      refine pw_const r_12_worthOf_42 ?_
      refine pw_goto r_12_worthOf_43 ?_
      refine pw_iret r_12_worthOf_62 rfl (Nat.le_refl _) ⟨rfl, ?_⟩
      have h9 := hP q1
      exact pe h9 (by rw [eW]; first | exact (if_pos (by omega)).symm | (rw [if_neg (by omega)]; omega))
  · skip
    refine pw_const r_12_worthOf_22 ?_
    refine pw_iret r_12_worthOf_23 rfl (Nat.le_refl _) ⟨rfl, ?_⟩
    have h9 := hP (rstN G)
    rw [rstM_self] at h9
    exact pe h9 (by rw [eW]; first | exact (if_pos (by omega)).symm | (rw [if_neg (by omega)]; omega))
set_option maxRecDepth 10000 in
theorem sp_X12_mayStay {l : Launch} {w : Wo} {d : Nat} {G : PH} {P : Option PV → PH → Prop} {p d0 k : Int} {ST : Int → Int → Int → Prop} {SD : Int → Int → Int → Int → Int → Int × Int} {FC : Int → Int → Int → Int} {KC : Int → Int → Int → Int → Int} (hsz : 0 ≤ (gF G 12 0 17) ∧ (gF G 12 0 17) ≤ 150) (hf : 0 ≤ (gF G 12 0 27) ∧ (gF G 12 0 27) ≤ 300) (hlt : 0 ≤ (gF G 12 0 29) ∧ (gF G 12 0 29) ≤ 60) (hofs : ∀ i, 0 ≤ i → i < (gF G 12 0 27) → 0 ≤ (gA G 219 0 (i)) ∧ (gA G 219 0 (i)) < 150) (hsent : ∀ l, 0 ≤ l → l < (gF G 12 0 29) → 0 ≤ (gA G 223 0 (l)) ∧ (gA G 223 0 (l)) ≤ 600) (hpr : 0 ≤ (gF G 12 0 34) ∧ (gF G 12 0 34) ≤ 40) (htx : 0 ≤ (gF G 12 0 42) ∧ (gF G 12 0 42) ≤ 20) (hTX : txM G) (hSD : sdM G = SD) (hFC : fcM G = FC) (hKC : kM G = KC) (hcA : ∀ i, 0 ≤ i → i < (gF G 12 0 17) → 0 ≤ (gA G 212 0 (i)) ∧ (gA G 212 0 (i)) ≤ 600) (hsA : ∀ i, 0 ≤ i → i < (gF G 12 0 17) → 0 ≤ (gA G 205 0 (i)) ∧ (gA G 205 0 (i)) ≤ 1) (hST : stM G = ST) (h1 : ¬ ((0 ≤ p ∧ p < (gF G 12 0 17)) ∧ (0 ≤ d0 ∧ d0 ≤ 600) ∧ 0 ≤ k ∧ k ≤ 600) → P (some (vI (-1))) G) (h2 : ((0 ≤ p ∧ p < (gF G 12 0 17)) ∧ (0 ≤ d0 ∧ d0 ≤ 600) ∧ 0 ≤ k ∧ k ≤ 600) → ∀ q : RQm, P (some (vI (b2i (ST p d0 k)))) (rstM G q)) : PW l w M_X12_mayStay (d + 99) 0 [some (vR 12 (0)), some (vI (p)), some (vI (d0)), some (vI (k))] [] G P := by
  refine pw_aload r_12_mayStay_0 rfl ?_
  refine pw_iload r_12_mayStay_1 rfl ?_
  refine pw_callV (av := [vI (p)]) (st := []) (ls0 := [some (vR 12 (0)), some (vI (p))]) r_12_mayStay_2 rfl rfl rfl (Nat.le_refl _) ?_
  refine sp_X12_isPerson  ?_
  refine pw_if_eqB r_12_mayStay_5 (fun h05 => ?_) (fun h05 => ?_)
  · skip
    refine pw_const r_12_mayStay_22 ?_
    refine pw_iret r_12_mayStay_23 rfl (Nat.le_refl _) ⟨rfl, ?_⟩
    exact h1 (by omega)
  · skip
    refine pw_iload r_12_mayStay_8 rfl ?_
    refine pw_callS (av := [vI (d0)]) (st := []) (ls0 := [some (vI (d0))]) r_12_mayStay_9 rfl rfl rfl (Nat.le_refl _) ?_
    refine sp_X12_isDay  ?_
    refine pw_if_eqB r_12_mayStay_12 (fun h12 => ?_) (fun h12 => ?_)
    · skip
      refine pw_const r_12_mayStay_22 ?_
      refine pw_iret r_12_mayStay_23 rfl (Nat.le_refl _) ⟨rfl, ?_⟩
      exact h1 (by omega)
    · skip
      refine pw_iload r_12_mayStay_15 rfl ?_
      refine pw_callS (av := [vI (k)]) (st := []) (ls0 := [some (vI (k))]) r_12_mayStay_16 rfl rfl rfl (Nat.le_refl _) ?_
      refine sp_X12_isDay  ?_
      refine pw_if_neB r_12_mayStay_19 (fun h19 => ?_) (fun h19 => ?_)
      · skip
        refine pw_aload r_12_mayStay_24 rfl ?_
        refine pw_iload r_12_mayStay_25 rfl ?_
        refine pw_iload r_12_mayStay_26 rfl ?_
        refine pw_iload r_12_mayStay_27 rfl ?_
        refine pw_callV (av := [vI (p), vI (d0), vI (k)]) (st := []) (ls0 := [some (vR 12 (0)), some (vI (p)), some (vI (d0)), some (vI (k)), none]) r_12_mayStay_28 rfl rfl rfl (Nat.le_refl _) ?_
        refine sp_X12_mayStayOn (SD := SD) (FC := FC) (KC := KC) (ST := ST) (by exact hsz) (by exact hf) (by exact hlt) (by exact hofs) (by exact hsent) (by exact hpr) (by exact htx) (by exact hTX) (by exact hSD) (by exact hFC) (by exact hKC) (by exact hcA) (by exact hsA) (by omega) (by omega) (by exact hST) ?_
        intro q1
        refine pw_if_eqB r_12_mayStay_31 (fun h31 => ?_) (fun h31 => ?_)
        · skip
          refine pw_const r_12_mayStay_38 ?_
          refine pw_iret r_12_mayStay_39 rfl (Nat.le_refl _) ⟨rfl, ?_⟩
          exact pe (h2 (by omega) q1) (by first | exact (b2i_t (by assumption)).symm | exact (b2i_f (by assumption)).symm)
        · skip
          refine pw_const r_12_mayStay_34 ?_
          refine pw_goto r_12_mayStay_35 ?_
          refine pw_iret r_12_mayStay_39 rfl (Nat.le_refl _) ⟨rfl, ?_⟩
          exact pe (h2 (by omega) q1) (by first | exact (b2i_t (by assumption)).symm | exact (b2i_f (by assumption)).symm)
      · skip
        refine pw_const r_12_mayStay_22 ?_
        refine pw_iret r_12_mayStay_23 rfl (Nat.le_refl _) ⟨rfl, ?_⟩
        exact h1 (by omega)
set_option maxRecDepth 10000 in
theorem sp_X12_worth {l : Launch} {w : Wo} {d : Nat} {G : PH} {P : Option PV → PH → Prop} {p z d0 k : Int} {WT : Int → Int → Int → Int → Int} {SD : Int → Int → Int → Int → Int → Int × Int} {FC : Int → Int → Int → Int} {KC : Int → Int → Int → Int → Int} (hsz : 0 ≤ (gF G 12 0 17) ∧ (gF G 12 0 17) ≤ 150) (hf : 0 ≤ (gF G 12 0 27) ∧ (gF G 12 0 27) ≤ 300) (hlt : 0 ≤ (gF G 12 0 29) ∧ (gF G 12 0 29) ≤ 60) (hofs : ∀ i, 0 ≤ i → i < (gF G 12 0 27) → 0 ≤ (gA G 219 0 (i)) ∧ (gA G 219 0 (i)) < 150) (hsent : ∀ l, 0 ≤ l → l < (gF G 12 0 29) → 0 ≤ (gA G 223 0 (l)) ∧ (gA G 223 0 (l)) ≤ 600) (hpr : 0 ≤ (gF G 12 0 34) ∧ (gF G 12 0 34) ≤ 40) (htx : 0 ≤ (gF G 12 0 42) ∧ (gF G 12 0 42) ≤ 20) (hTX : txM G) (hSD : sdM G = SD) (hFC : fcM G = FC) (hKC : kM G = KC) (hcA : ∀ i, 0 ≤ i → i < (gF G 12 0 17) → 0 ≤ (gA G 212 0 (i)) ∧ (gA G 212 0 (i)) ≤ 600) (hsA : ∀ i, 0 ≤ i → i < (gF G 12 0 17) → 0 ≤ (gA G 205 0 (i)) ∧ (gA G 205 0 (i)) ≤ 1) (hWT : wtM G = WT) (h1 : ¬ ((0 ≤ p ∧ p < (gF G 12 0 17)) ∧ (0 ≤ z ∧ z ≤ 1) ∧ (0 ≤ d0 ∧ d0 ≤ 600) ∧ 0 ≤ k ∧ k ≤ 600) → P (some (vI (-1))) G) (h2 : ((0 ≤ p ∧ p < (gF G 12 0 17)) ∧ (0 ≤ z ∧ z ≤ 1) ∧ (0 ≤ d0 ∧ d0 ≤ 600) ∧ 0 ≤ k ∧ k ≤ 600) → ∀ q : RQm, P (some (vI (WT p z d0 k))) (rstM G q)) : PW l w M_X12_worth (d + 99) 0 [some (vR 12 (0)), some (vI (p)), some (vI (z)), some (vI (d0)), some (vI (k))] [] G P := by
  refine pw_aload r_12_worth_0 rfl ?_
  refine pw_iload r_12_worth_1 rfl ?_
  refine pw_callV (av := [vI (p)]) (st := []) (ls0 := [some (vR 12 (0)), some (vI (p))]) r_12_worth_2 rfl rfl rfl (Nat.le_refl _) ?_
  refine sp_X12_isPerson  ?_
  refine pw_if_eqB r_12_worth_5 (fun h05 => ?_) (fun h05 => ?_)
  · skip
    refine pw_const r_12_worth_42 ?_
    refine pw_iret r_12_worth_43 rfl (Nat.le_refl _) ⟨rfl, ?_⟩
    exact h1 (by omega)
  · skip
    refine pw_iload r_12_worth_8 rfl ?_
    refine pw_callS (av := [vI (z)]) (st := []) (ls0 := [some (vI (z))]) r_12_worth_9 rfl rfl rfl (Nat.le_refl _) ?_
    refine sp_X12_isSide  ?_
    refine pw_if_eqB r_12_worth_12 (fun h12 => ?_) (fun h12 => ?_)
    · skip
      refine pw_const r_12_worth_42 ?_
      refine pw_iret r_12_worth_43 rfl (Nat.le_refl _) ⟨rfl, ?_⟩
      exact h1 (by omega)
    · skip
      refine pw_iload r_12_worth_15 rfl ?_
      refine pw_callS (av := [vI (d0)]) (st := []) (ls0 := [some (vI (d0))]) r_12_worth_16 rfl rfl rfl (Nat.le_refl _) ?_
      refine sp_X12_isDay  ?_
      refine pw_if_eqB r_12_worth_19 (fun h19 => ?_) (fun h19 => ?_)
      · skip
        refine pw_const r_12_worth_42 ?_
        refine pw_iret r_12_worth_43 rfl (Nat.le_refl _) ⟨rfl, ?_⟩
        exact h1 (by omega)
      · skip
        refine pw_iload r_12_worth_22 rfl ?_
        refine pw_callS (av := [vI (k)]) (st := []) (ls0 := [some (vI (k))]) r_12_worth_24 rfl rfl rfl (Nat.le_refl _) ?_
        refine sp_X12_isDay  ?_
        refine pw_if_eqB r_12_worth_27 (fun h27 => ?_) (fun h27 => ?_)
        · skip
          refine pw_const r_12_worth_42 ?_
          refine pw_iret r_12_worth_43 rfl (Nat.le_refl _) ⟨rfl, ?_⟩
          exact h1 (by omega)
        · skip
          refine pw_aload r_12_worth_30 rfl ?_
          refine pw_iload r_12_worth_31 rfl ?_
          refine pw_iload r_12_worth_32 rfl ?_
          refine pw_iload r_12_worth_33 rfl ?_
          refine pw_iload r_12_worth_34 rfl ?_
          refine pw_callV (av := [vI (p), vI (z), vI (d0), vI (k)]) (st := []) (ls0 := [some (vR 12 (0)), some (vI (p)), some (vI (z)), some (vI (d0)), some (vI (k)), none, none]) r_12_worth_36 rfl rfl rfl (Nat.le_refl _) ?_
          refine sp_X12_worthOf (SD := SD) (FC := FC) (KC := KC) (WT := WT) (by exact hsz) (by exact hf) (by exact hlt) (by exact hofs) (by exact hsent) (by exact hpr) (by exact htx) (by exact hTX) (by exact hSD) (by exact hFC) (by exact hKC) (by exact hcA) (by exact hsA) (by omega) (by omega) (by omega) (by exact hWT) ?_
          intro q1
          refine pw_goto r_12_worth_39 ?_
          refine pw_iret r_12_worth_43 rfl (Nat.le_refl _) ⟨rfl, ?_⟩
          exact h2 (by omega) q1
set_option maxRecDepth 10000 in
theorem sp_X12_owed {l : Launch} {w : Wo} {d : Nat} {G : PH} {P : Option PV → PH → Prop} {p d0 k : Int} {SD : Int → Int → Int → Int → Int → Int × Int} {FC : Int → Int → Int → Int} {KC : Int → Int → Int → Int → Int} (hsz : 0 ≤ (gF G 12 0 17) ∧ (gF G 12 0 17) ≤ 150) (hf : 0 ≤ (gF G 12 0 27) ∧ (gF G 12 0 27) ≤ 300) (hlt : 0 ≤ (gF G 12 0 29) ∧ (gF G 12 0 29) ≤ 60) (hofs : ∀ i, 0 ≤ i → i < (gF G 12 0 27) → 0 ≤ (gA G 219 0 (i)) ∧ (gA G 219 0 (i)) < 150) (hsent : ∀ l, 0 ≤ l → l < (gF G 12 0 29) → 0 ≤ (gA G 223 0 (l)) ∧ (gA G 223 0 (l)) ≤ 600) (hpr : 0 ≤ (gF G 12 0 34) ∧ (gF G 12 0 34) ≤ 40) (htx : 0 ≤ (gF G 12 0 42) ∧ (gF G 12 0 42) ≤ 20) (hTX : txM G) (hSD : sdM G = SD) (hFC : fcM G = FC) (hKC : kM G = KC) (hcA : ∀ i, 0 ≤ i → i < (gF G 12 0 17) → 0 ≤ (gA G 212 0 (i)) ∧ (gA G 212 0 (i)) ≤ 600) (hsA : ∀ i, 0 ≤ i → i < (gF G 12 0 17) → 0 ≤ (gA G 205 0 (i)) ∧ (gA G 205 0 (i)) ≤ 1) (h1 : ¬ ((0 ≤ p ∧ p < (gF G 12 0 17)) ∧ (0 ≤ d0 ∧ d0 ≤ 600) ∧ 0 ≤ k ∧ k ≤ 600) → P (some (vI (-1))) G) (h2 : ((0 ≤ p ∧ p < (gF G 12 0 17)) ∧ (0 ≤ d0 ∧ d0 ≤ 600) ∧ 0 ≤ k ∧ k ≤ 600) → ∀ (q : RQm) (v : Int), (((0 ≤ FC 0 d0 k ∧ (SD (FC 0 d0 k) (gA G 205 0 (p)) p d0 k).2 ≠ 0) ∧ v = wr (100 + (SD (FC 0 d0 k) (gA G 205 0 (p)) p d0 k).1)) ∨ (¬ (0 ≤ FC 0 d0 k ∧ (SD (FC 0 d0 k) (gA G 205 0 (p)) p d0 k).2 ≠ 0) ∧ (0 ≤ FC 10 d0 k ∧ (SD (FC 10 d0 k) (gA G 205 0 (p)) p d0 k).2 ≠ 0) ∧ v = wr (200 + (SD (FC 10 d0 k) (gA G 205 0 (p)) p d0 k).1)) ∨ (¬ (0 ≤ FC 0 d0 k ∧ (SD (FC 0 d0 k) (gA G 205 0 (p)) p d0 k).2 ≠ 0) ∧ ¬ (0 ≤ FC 10 d0 k ∧ (SD (FC 10 d0 k) (gA G 205 0 (p)) p d0 k).2 ≠ 0) ∧ v = 0)) → P (some (vI v)) (rstM G q)) : PW l w M_X12_owed (d + 99) 0 [some (vR 12 (0)), some (vI (p)), some (vI (d0)), some (vI (k)), none, none] [] G P := by
  have hFb : ∀ u a b, FC u a b < (gF G 12 0 42) := fun u a b => by rw [← hFC]; have := fcM_lt (G := G) htx.1 u a b; omega
  refine pw_aload r_12_owed_0 rfl ?_
  refine pw_iload r_12_owed_1 rfl ?_
  refine pw_callV (av := [vI (p)]) (st := []) (ls0 := [some (vR 12 (0)), some (vI (p))]) r_12_owed_2 rfl rfl rfl (Nat.le_refl _) ?_
  refine sp_X12_isPerson  ?_
  refine pw_if_eqB r_12_owed_5 (fun h05 => ?_) (fun h05 => ?_)
  · skip
    refine pw_const r_12_owed_22 ?_
    refine pw_iret r_12_owed_23 rfl (Nat.le_refl _) ⟨rfl, ?_⟩
    first | exact h1 (by omega) | (have h9 := h2 (by omega) (rstN G) _ (Or.inr (Or.inr ⟨by omega, by omega, rfl⟩)); rw [rstM_self] at h9; exact h9)
  · skip
    refine pw_iload r_12_owed_8 rfl ?_
    refine pw_callS (av := [vI (d0)]) (st := []) (ls0 := [some (vI (d0))]) r_12_owed_9 rfl rfl rfl (Nat.le_refl _) ?_
    refine sp_X12_isDay  ?_
    refine pw_if_eqB r_12_owed_12 (fun h12 => ?_) (fun h12 => ?_)
    · skip
      refine pw_const r_12_owed_22 ?_
      refine pw_iret r_12_owed_23 rfl (Nat.le_refl _) ⟨rfl, ?_⟩
      first | exact h1 (by omega) | (have h9 := h2 (by omega) (rstN G) _ (Or.inr (Or.inr ⟨by omega, by omega, rfl⟩)); rw [rstM_self] at h9; exact h9)
    · skip
      refine pw_iload r_12_owed_15 rfl ?_
      refine pw_callS (av := [vI (k)]) (st := []) (ls0 := [some (vI (k))]) r_12_owed_16 rfl rfl rfl (Nat.le_refl _) ?_
      refine sp_X12_isDay  ?_
      refine pw_if_neB r_12_owed_19 (fun h19 => ?_) (fun h19 => ?_)
      · skip
        refine pw_const r_12_owed_24 ?_
        refine pw_istore (ls' := [some (vR 12 (0)), some (vI (p)), some (vI (d0)), some (vI (k)), some (vI (0)), none]) r_12_owed_25 rfl rfl ?_
        refine pw_iload r_12_owed_27 rfl ?_
        refine pw_const r_12_owed_29 ?_
        refine pw_icmp_ge r_12_owed_30 (fun h30 => absurd h30 (by decide)) (fun h30 => ?_)
        refine pw_aload r_12_owed_33 rfl ?_
        refine pw_const r_12_owed_34 ?_
        refine pw_iload r_12_owed_36 rfl ?_
        refine pw_imul r_12_owed_38 (by omega) ?_
        refine pw_top (b := 0) (by decide) ?_
        refine pw_iload r_12_owed_39 rfl ?_
        refine pw_iload r_12_owed_40 rfl ?_
        refine pw_callV (av := [vI (0), vI (d0), vI (k)]) (st := []) (ls0 := [some (vR 12 (0)), some (vI (0)), some (vI (d0)), some (vI (k)), none, none]) r_12_owed_41 rfl rfl rfl (Nat.le_refl _) ?_
        refine sp_X12_force (by first | assumption | exact htx | omega) ?_
        refine pw_top (b := FC 0 d0 k) ((show fcM G 0 d0 k = FC 0 d0 k by rw [hFC])) ?_
        refine pw_istore (ls' := [some (vR 12 (0)), some (vI (p)), some (vI (d0)), some (vI (k)), some (vI (0)), some (vI (FC 0 d0 k))]) r_12_owed_44 rfl rfl ?_
        refine pw_iload r_12_owed_46 rfl ?_
        refine pw_if_lt r_12_owed_48 (fun h48 => ?_) (fun h48 => ?_)
        · skip
          refine pw_iinc (b := 0) (ls' := [some (vR 12 (0)), some (vI (p)), some (vI (d0)), some (vI (k)), some (vI (1)), some (vI (FC 0 d0 k))]) r_12_owed_82 rfl rfl (by omega) rfl ?_
          refine pw_goto r_12_owed_85 ?_
          refine pw_iload r_12_owed_27 rfl ?_
          refine pw_const r_12_owed_29 ?_
          refine pw_icmp_ge r_12_owed_30 (fun h30 => absurd h30 (by decide)) (fun h30 => ?_)
          refine pw_aload r_12_owed_33 rfl ?_
          refine pw_const r_12_owed_34 ?_
          refine pw_iload r_12_owed_36 rfl ?_
          refine pw_imul r_12_owed_38 (by omega) ?_
          refine pw_top (b := 10) (by decide) ?_
          refine pw_iload r_12_owed_39 rfl ?_
          refine pw_iload r_12_owed_40 rfl ?_
          refine pw_callV (av := [vI (10), vI (d0), vI (k)]) (st := []) (ls0 := [some (vR 12 (0)), some (vI (10)), some (vI (d0)), some (vI (k)), none, none]) r_12_owed_41 rfl rfl rfl (Nat.le_refl _) ?_
          refine sp_X12_force (by first | assumption | exact htx | omega) ?_
          refine pw_top (b := FC (10) d0 k) ((show fcM G (10) d0 k = FC (10) d0 k by rw [hFC])) ?_
          refine pw_istore (ls' := [some (vR 12 (0)), some (vI (p)), some (vI (d0)), some (vI (k)), some (vI (1)), some (vI (FC (10) d0 k))]) r_12_owed_44 rfl rfl ?_
          refine pw_iload r_12_owed_46 rfl ?_
          refine pw_if_lt r_12_owed_48 (fun h48 => ?_) (fun h48 => ?_)
          · skip
            refine pw_iinc (b := 0) (ls' := [some (vR 12 (0)), some (vI (p)), some (vI (d0)), some (vI (k)), some (vI (2)), some (vI (FC (10) d0 k))]) r_12_owed_82 rfl rfl (by omega) rfl ?_
            refine pw_goto r_12_owed_85 ?_
            refine pw_iload r_12_owed_27 rfl ?_
            refine pw_const r_12_owed_29 ?_
            refine pw_icmp_ge r_12_owed_30 (fun h30 => ?_) (fun h30 => absurd h30 (by decide))
            refine pw_const r_12_owed_88 ?_
            refine pw_iret r_12_owed_89 rfl (Nat.le_refl _) ⟨rfl, ?_⟩
            first | exact h1 (by omega) | (have h9 := h2 (by omega) (rstN G) _ (Or.inr (Or.inr ⟨by omega, by omega, rfl⟩)); rw [rstM_self] at h9; exact h9)
          · skip
            refine pw_aload r_12_owed_51 rfl ?_
            refine pw_iload r_12_owed_52 rfl ?_
            refine pw_iload r_12_owed_54 rfl ?_
            refine pw_aload r_12_owed_55 rfl ?_
            refine pw_getR r_12_owed_56 fs_12_7 (by decide) ?_
            refine pw_iload r_12_owed_59 rfl ?_
            refine pw_iald r_12_owed_60 sh205 (by omega) (by omega) ?_
            refine pw_iload r_12_owed_61 rfl ?_
            refine pw_iload r_12_owed_62 rfl ?_
            refine pw_callV (av := [vI (FC (10) d0 k), vI (p), vI (gA G 205 (0) (p)), vI (d0), vI (k)]) (st := []) (ls0 := [some (vR 12 (0)), some (vI (FC (10) d0 k)), some (vI (p)), some (vI (gA G 205 (0) (p))), some (vI (d0)), some (vI (k)), none, none]) r_12_owed_63 rfl rfl rfl (Nat.le_refl _) ?_
            refine sp_X12_saidOf (SD := SD) (FC := FC) (KC := KC) (t := (FC 10 d0 k)) (p := p) (z := (gA G 205 0 (p))) (by exact hsz) (by exact hf) (by exact hlt) (by exact hofs) (by exact hsent) (by exact hpr) (by exact htx) (by exact hTX) (by exact hSD) (by exact hFC) (by exact hKC) (by first | omega | (show 0 ≤ p ∧ p < (gF G 12 0 17); omega)) (by exact hcA p (by omega) (by omega)) (by exact hsA p (by omega) (by omega)) (by omega) (⟨by omega, by exact hFb _ _ _⟩) ?_
            intro q4 q5
            refine pw_if_eq r_12_owed_66 (fun h66 => ?_) (fun h66 => ?_)
            · skip
              refine pw_iinc (b := 0) (ls' := [some (vR 12 (0)), some (vI (p)), some (vI (d0)), some (vI (k)), some (vI (2)), some (vI (FC (10) d0 k))]) r_12_owed_82 rfl rfl (by omega) rfl ?_
              refine pw_goto r_12_owed_85 ?_
              refine pw_iload r_12_owed_27 rfl ?_
              refine pw_const r_12_owed_29 ?_
              refine pw_icmp_ge r_12_owed_30 (fun h30 => ?_) (fun h30 => absurd h30 (by decide))
              refine pw_const r_12_owed_88 ?_
              refine pw_iret r_12_owed_89 rfl (Nat.le_refl _) ⟨rfl, ?_⟩
              first | exact h2 (by omega) q4 _ (Or.inr (Or.inr ⟨by omega, by omega, rfl⟩)) | exact h2 (by omega) q4 _ (Or.inl ⟨by omega, by rw [q5]⟩) | exact h2 (by omega) q4 _ (Or.inr (Or.inl ⟨by omega, by omega, by rw [q5]⟩))
            · skip
              refine pw_const r_12_owed_69 ?_
              refine pw_iload r_12_owed_71 rfl ?_
              refine pw_const r_12_owed_73 ?_
              refine pw_iadd r_12_owed_74 (by omega) ?_
              refine pw_top (b := 2) (by decide) ?_
              refine pw_imul r_12_owed_75 (by omega) ?_
              refine pw_top (b := 200) (by decide) ?_
              refine pw_aload r_12_owed_76 rfl ?_
              refine pw_getI r_12_owed_77 fs_12_50 (by decide) ?_
              refine pw_top (b := q4.2.2.2.2.2.2) (rfl) ?_
              refine pw_iaddW r_12_owed_80 ?_
              refine pw_iret r_12_owed_81 rfl (Nat.le_refl _) ⟨rfl, ?_⟩
              first | exact h2 (by omega) q4 _ (Or.inr (Or.inr ⟨by omega, by omega, rfl⟩)) | exact h2 (by omega) q4 _ (Or.inl ⟨by omega, by rw [q5]⟩) | exact h2 (by omega) q4 _ (Or.inr (Or.inl ⟨by omega, by omega, by rw [q5]⟩))
        · skip
          refine pw_aload r_12_owed_51 rfl ?_
          refine pw_iload r_12_owed_52 rfl ?_
          refine pw_iload r_12_owed_54 rfl ?_
          refine pw_aload r_12_owed_55 rfl ?_
          refine pw_getR r_12_owed_56 fs_12_7 (by decide) ?_
          refine pw_iload r_12_owed_59 rfl ?_
          refine pw_iald r_12_owed_60 sh205 (by omega) (by omega) ?_
          refine pw_iload r_12_owed_61 rfl ?_
          refine pw_iload r_12_owed_62 rfl ?_
          refine pw_callV (av := [vI (FC 0 d0 k), vI (p), vI (gA G 205 (0) (p)), vI (d0), vI (k)]) (st := []) (ls0 := [some (vR 12 (0)), some (vI (FC 0 d0 k)), some (vI (p)), some (vI (gA G 205 (0) (p))), some (vI (d0)), some (vI (k)), none, none]) r_12_owed_63 rfl rfl rfl (Nat.le_refl _) ?_
          refine sp_X12_saidOf (SD := SD) (FC := FC) (KC := KC) (t := (FC 0 d0 k)) (p := p) (z := (gA G 205 0 (p))) (by exact hsz) (by exact hf) (by exact hlt) (by exact hofs) (by exact hsent) (by exact hpr) (by exact htx) (by exact hTX) (by exact hSD) (by exact hFC) (by exact hKC) (by first | omega | (show 0 ≤ p ∧ p < (gF G 12 0 17); omega)) (by exact hcA p (by omega) (by omega)) (by exact hsA p (by omega) (by omega)) (by omega) (⟨by omega, by exact hFb _ _ _⟩) ?_
          intro q1 q2
          refine pw_if_eq r_12_owed_66 (fun h66 => ?_) (fun h66 => ?_)
          · skip
            refine pw_iinc (b := 0) (ls' := [some (vR 12 (0)), some (vI (p)), some (vI (d0)), some (vI (k)), some (vI (1)), some (vI (FC 0 d0 k))]) r_12_owed_82 rfl rfl (by omega) rfl ?_
            refine pw_goto r_12_owed_85 ?_
            refine pw_iload r_12_owed_27 rfl ?_
            refine pw_const r_12_owed_29 ?_
            refine pw_icmp_ge r_12_owed_30 (fun h30 => absurd h30 (by decide)) (fun h30 => ?_)
            refine pw_aload r_12_owed_33 rfl ?_
            refine pw_const r_12_owed_34 ?_
            refine pw_iload r_12_owed_36 rfl ?_
            refine pw_imul r_12_owed_38 (by omega) ?_
            refine pw_top (b := 10) (by decide) ?_
            refine pw_iload r_12_owed_39 rfl ?_
            refine pw_iload r_12_owed_40 rfl ?_
            refine pw_callV (av := [vI (10), vI (d0), vI (k)]) (st := []) (ls0 := [some (vR 12 (0)), some (vI (10)), some (vI (d0)), some (vI (k)), none, none]) r_12_owed_41 rfl rfl rfl (Nat.le_refl _) ?_
            refine sp_X12_force (by first | assumption | exact htx | omega) ?_
            refine pw_top (b := lastOf (fun i => ((gA G 231 (0) (i)) = 10 ∧ (gA G 232 (0) (i)) ≤ k ∧ (gA G 233 (0) (i)) ≤ d0)) (fun i => i) (-1) (gF G 12 (0) 42)) (by first | rfl | simp (disch := decide) [gF_sF, gF_sA, gF_uA, gF_sD, gA_sF, gA_sA, gA_uA, gA_sD, gD_sF, gD_sA, gD_uA, gD_sD]) ?_
            refine pw_top (b := FC (10) d0 k) ((show fcM G (10) d0 k = FC (10) d0 k by rw [hFC])) ?_
            refine pw_istore (ls' := [some (vR 12 (0)), some (vI (p)), some (vI (d0)), some (vI (k)), some (vI (1)), some (vI (FC (10) d0 k))]) r_12_owed_44 rfl rfl ?_
            refine pw_iload r_12_owed_46 rfl ?_
            refine pw_if_lt r_12_owed_48 (fun h48 => ?_) (fun h48 => ?_)
            · skip
              refine pw_iinc (b := 0) (ls' := [some (vR 12 (0)), some (vI (p)), some (vI (d0)), some (vI (k)), some (vI (2)), some (vI (FC (10) d0 k))]) r_12_owed_82 rfl rfl (by omega) rfl ?_
              refine pw_goto r_12_owed_85 ?_
              refine pw_iload r_12_owed_27 rfl ?_
              refine pw_const r_12_owed_29 ?_
              refine pw_icmp_ge r_12_owed_30 (fun h30 => ?_) (fun h30 => absurd h30 (by decide))
              refine pw_const r_12_owed_88 ?_
              refine pw_iret r_12_owed_89 rfl (Nat.le_refl _) ⟨rfl, ?_⟩
              first | exact h2 (by omega) q1 _ (Or.inr (Or.inr ⟨by omega, by omega, rfl⟩)) | exact h2 (by omega) q1 _ (Or.inl ⟨by omega, by rw [q2]⟩) | exact h2 (by omega) q1 _ (Or.inr (Or.inl ⟨by omega, by omega, by rw [q2]⟩))
            · skip
              refine pw_aload r_12_owed_51 rfl ?_
              refine pw_iload r_12_owed_52 rfl ?_
              refine pw_iload r_12_owed_54 rfl ?_
              refine pw_aload r_12_owed_55 rfl ?_
              refine pw_getR r_12_owed_56 fs_12_7 (by decide) ?_
              refine pw_iload r_12_owed_59 rfl ?_
              refine pw_ialdv (v := gA G 205 (0) (p)) r_12_owed_60 sh205 (by omega) (by omega) (by first | rfl | simp [gF_sF, gF_sA, gF_uA, gF_sD, gA_sF, gA_sA, gA_uA, gA_sD, gD_sF, gD_sA, gD_uA, gD_sD]) ?_
              refine pw_iload r_12_owed_61 rfl ?_
              refine pw_iload r_12_owed_62 rfl ?_
              refine pw_callV (av := [vI (FC (10) d0 k), vI (p), vI (gA G 205 (0) (p)), vI (d0), vI (k)]) (st := []) (ls0 := [some (vR 12 (0)), some (vI (FC (10) d0 k)), some (vI (p)), some (vI (gA G 205 (0) (p))), some (vI (d0)), some (vI (k)), none, none]) r_12_owed_63 rfl rfl rfl (Nat.le_refl _) ?_
              refine sp_X12_saidOf (SD := SD) (FC := FC) (KC := KC) (t := (FC 10 d0 k)) (p := p) (z := (gA G 205 0 (p))) (by exact hsz) (by exact hf) (by exact hlt) (by exact hofs) (by exact hsent) (by exact hpr) (by exact htx) (by exact hTX) (by exact hSD) (by exact hFC) (by exact hKC) (by first | omega | (show 0 ≤ p ∧ p < (gF G 12 0 17); omega)) (by exact hcA p (by omega) (by omega)) (by exact hsA p (by omega) (by omega)) (by omega) (⟨by omega, by exact hFb _ _ _⟩) ?_
              intro q4 q5
              refine pw_eqG (G' := rstM G q4) (rstM_rst _ _ _) ?_
              refine pw_if_eq r_12_owed_66 (fun h66 => ?_) (fun h66 => ?_)
              · skip
                refine pw_iinc (b := 0) (ls' := [some (vR 12 (0)), some (vI (p)), some (vI (d0)), some (vI (k)), some (vI (2)), some (vI (FC (10) d0 k))]) r_12_owed_82 rfl rfl (by omega) rfl ?_
                refine pw_goto r_12_owed_85 ?_
                refine pw_iload r_12_owed_27 rfl ?_
                refine pw_const r_12_owed_29 ?_
                refine pw_icmp_ge r_12_owed_30 (fun h30 => ?_) (fun h30 => absurd h30 (by decide))
                refine pw_const r_12_owed_88 ?_
                refine pw_iret r_12_owed_89 rfl (Nat.le_refl _) ⟨rfl, ?_⟩
                first | exact h2 (by omega) q4 _ (Or.inr (Or.inr ⟨by omega, by omega, rfl⟩)) | exact h2 (by omega) q4 _ (Or.inl ⟨by omega, by rw [q5]⟩) | exact h2 (by omega) q4 _ (Or.inr (Or.inl ⟨by omega, by omega, by rw [q5]⟩))
              · skip
                refine pw_const r_12_owed_69 ?_
                refine pw_iload r_12_owed_71 rfl ?_
                refine pw_const r_12_owed_73 ?_
                refine pw_iadd r_12_owed_74 (by omega) ?_
                refine pw_top (b := 2) (by decide) ?_
                refine pw_imul r_12_owed_75 (by omega) ?_
                refine pw_top (b := 200) (by decide) ?_
                refine pw_aload r_12_owed_76 rfl ?_
                refine pw_getI r_12_owed_77 fs_12_50 (by decide) ?_
                refine pw_top (b := q4.2.2.2.2.2.2) (rfl) ?_
                refine pw_iaddW r_12_owed_80 ?_
                refine pw_iret r_12_owed_81 rfl (Nat.le_refl _) ⟨rfl, ?_⟩
                first | exact h2 (by omega) q4 _ (Or.inr (Or.inr ⟨by omega, by omega, rfl⟩)) | exact h2 (by omega) q4 _ (Or.inl ⟨by omega, by rw [q5]⟩) | exact h2 (by omega) q4 _ (Or.inr (Or.inl ⟨by omega, by omega, by rw [q5]⟩))
          · skip
            refine pw_const r_12_owed_69 ?_
            refine pw_iload r_12_owed_71 rfl ?_
            refine pw_const r_12_owed_73 ?_
            refine pw_iadd r_12_owed_74 (by omega) ?_
            refine pw_top (b := 1) (by decide) ?_
            refine pw_imul r_12_owed_75 (by omega) ?_
            refine pw_top (b := 100) (by decide) ?_
            refine pw_aload r_12_owed_76 rfl ?_
            refine pw_getI r_12_owed_77 fs_12_50 (by decide) ?_
            refine pw_top (b := q1.2.2.2.2.2.2) (rfl) ?_
            refine pw_iaddW r_12_owed_80 ?_
            refine pw_iret r_12_owed_81 rfl (Nat.le_refl _) ⟨rfl, ?_⟩
            first | exact h2 (by omega) q1 _ (Or.inr (Or.inr ⟨by omega, by omega, rfl⟩)) | exact h2 (by omega) q1 _ (Or.inl ⟨by omega, by rw [q2]⟩) | exact h2 (by omega) q1 _ (Or.inr (Or.inl ⟨by omega, by omega, by rw [q2]⟩))
      · skip
        refine pw_const r_12_owed_22 ?_
        refine pw_iret r_12_owed_23 rfl (Nat.le_refl _) ⟨rfl, ?_⟩
        first | exact h1 (by omega) | (have h9 := h2 (by omega) (rstN G) _ (Or.inr (Or.inr ⟨by omega, by omega, rfl⟩)); rw [rstM_self] at h9; exact h9)
set_option maxRecDepth 10000 in
theorem sp_X12_says {l : Launch} {w : Wo} {d : Nat} {G : PH} {P : Option PV → PH → Prop} {t p u d0 k : Int} {SD : Int → Int → Int → Int → Int → Int × Int} {FC : Int → Int → Int → Int} {KC : Int → Int → Int → Int → Int} (hsz : 0 ≤ (gF G 12 0 17) ∧ (gF G 12 0 17) ≤ 150) (hf : 0 ≤ (gF G 12 0 27) ∧ (gF G 12 0 27) ≤ 300) (hlt : 0 ≤ (gF G 12 0 29) ∧ (gF G 12 0 29) ≤ 60) (hofs : ∀ i, 0 ≤ i → i < (gF G 12 0 27) → 0 ≤ (gA G 219 0 (i)) ∧ (gA G 219 0 (i)) < 150) (hsent : ∀ l, 0 ≤ l → l < (gF G 12 0 29) → 0 ≤ (gA G 223 0 (l)) ∧ (gA G 223 0 (l)) ≤ 600) (hpr : 0 ≤ (gF G 12 0 34) ∧ (gF G 12 0 34) ≤ 40) (htx : 0 ≤ (gF G 12 0 42) ∧ (gF G 12 0 42) ≤ 20) (hTX : txM G) (hSD : sdM G = SD) (hFC : fcM G = FC) (hKC : kM G = KC) (hcA : ∀ i, 0 ≤ i → i < (gF G 12 0 17) → 0 ≤ (gA G 212 0 (i)) ∧ (gA G 212 0 (i)) ≤ 600) (hsA : ∀ i, 0 ≤ i → i < (gF G 12 0 17) → 0 ≤ (gA G 205 0 (i)) ∧ (gA G 205 0 (i)) ≤ 1) (h1 : ¬ ((0 ≤ t ∧ t < (gF G 12 0 42)) ∧ (0 ≤ p ∧ p < (gF G 12 0 17)) ∧ ((0 ≤ d0 ∧ d0 ≤ 600) ∧ 0 ≤ k ∧ k ≤ 600) ∧ (u = 0 ∨ u = 1 ∨ u = 10 ∨ u = 11)) → P (some (vI (-2000000000))) G) (h2 : ((0 ≤ t ∧ t < (gF G 12 0 42)) ∧ (0 ≤ p ∧ p < (gF G 12 0 17)) ∧ ((0 ≤ d0 ∧ d0 ≤ 600) ∧ 0 ≤ k ∧ k ≤ 600) ∧ (u = 0 ∨ u = 1 ∨ u = 10 ∨ u = 11)) → ∀ (q : RQm) (v : Int), ((u % 10 = 0 ∧ v = (SD t (u / 10) p d0 k).2) ∨ (u % 10 = 1 ∧ v = (SD t (u / 10) p d0 k).1)) → P (some (vI v)) (rstM G q)) : PW l w M_X12_says (d + 99) 0 [some (vR 12 (0)), some (vI (t)), some (vI (p)), some (vI (u)), some (vI (d0)), some (vI (k)), none] [] G P := by
  refine pw_rng (i := 3) rfl (fun hj => ?_)
  have hj : -2147483648 ≤ u ∧ u < 2147483648 := hj
  refine pw_iload r_12_says_0 rfl ?_
  refine pw_if_lt r_12_says_1 (fun h01 => ?_) (fun h01 => ?_)
  · skip
    refine pw_const r_12_says_58 ?_
    refine pw_iret r_12_says_61 rfl (Nat.le_refl _) ⟨rfl, ?_⟩
    exact h1 (by omega)
  · skip
    refine pw_iload r_12_says_4 rfl ?_
    refine pw_aload r_12_says_5 rfl ?_
    refine pw_getI r_12_says_6 fs_12_42 (by decide) ?_
    refine pw_icmp_ge r_12_says_9 (fun h09 => ?_) (fun h09 => ?_)
    · skip
      refine pw_const r_12_says_58 ?_
      refine pw_iret r_12_says_61 rfl (Nat.le_refl _) ⟨rfl, ?_⟩
      exact h1 (by omega)
    · skip
      refine pw_aload r_12_says_12 rfl ?_
      refine pw_iload r_12_says_13 rfl ?_
      refine pw_callV (av := [vI (p)]) (st := []) (ls0 := [some (vR 12 (0)), some (vI (p))]) r_12_says_14 rfl rfl rfl (Nat.le_refl _) ?_
      refine sp_X12_isPerson  ?_
      refine pw_if_eqB r_12_says_17 (fun h17 => ?_) (fun h17 => ?_)
      · skip
        refine pw_const r_12_says_58 ?_
        refine pw_iret r_12_says_61 rfl (Nat.le_refl _) ⟨rfl, ?_⟩
        exact h1 (by omega)
      · skip
        refine pw_iload r_12_says_20 rfl ?_
        refine pw_if_lt r_12_says_21 (fun h21 => ?_) (fun h21 => ?_)
        · skip
          refine pw_const r_12_says_58 ?_
          refine pw_iret r_12_says_61 rfl (Nat.le_refl _) ⟨rfl, ?_⟩
          exact h1 (by omega)
        · skip
          refine pw_iload r_12_says_24 rfl ?_
          refine pw_const r_12_says_25 ?_
          refine pw_idivN r_12_says_27 (by omega) (by omega) (by omega) ?_
          refine pw_callS (av := [vI ((u / 10))]) (st := []) (ls0 := [some (vI ((u / 10)))]) r_12_says_28 rfl rfl rfl (Nat.le_refl _) ?_
          refine sp_X12_isSide  ?_
          refine pw_if_eqB r_12_says_31 (fun h31 => ?_) (fun h31 => ?_)
          · skip
            refine pw_const r_12_says_58 ?_
            refine pw_iret r_12_says_61 rfl (Nat.le_refl _) ⟨rfl, ?_⟩
            exact h1 (by omega)
          · skip
            refine pw_iload r_12_says_34 rfl ?_
            refine pw_const r_12_says_35 ?_
            refine pw_iremN r_12_says_37 (by omega) (by omega) ?_
            refine pw_const r_12_says_38 ?_
            refine pw_icmp_gt r_12_says_39 (fun h39 => ?_) (fun h39 => ?_)
            · skip
              refine pw_const r_12_says_58 ?_
              refine pw_iret r_12_says_61 rfl (Nat.le_refl _) ⟨rfl, ?_⟩
              exact h1 (by omega)
            · skip
              refine pw_iload r_12_says_42 rfl ?_
              refine pw_callS (av := [vI (d0)]) (st := []) (ls0 := [some (vI (d0))]) r_12_says_44 rfl rfl rfl (Nat.le_refl _) ?_
              refine sp_X12_isDay  ?_
              refine pw_if_eqB r_12_says_47 (fun h47 => ?_) (fun h47 => ?_)
              · skip
                refine pw_const r_12_says_58 ?_
                refine pw_iret r_12_says_61 rfl (Nat.le_refl _) ⟨rfl, ?_⟩
                exact h1 (by omega)
              · skip
                refine pw_iload r_12_says_50 rfl ?_
                refine pw_callS (av := [vI (k)]) (st := []) (ls0 := [some (vI (k))]) r_12_says_52 rfl rfl rfl (Nat.le_refl _) ?_
                refine sp_X12_isDay  ?_
                refine pw_if_neB r_12_says_55 (fun h55 => ?_) (fun h55 => ?_)
                · skip
                  refine pw_aload r_12_says_62 rfl ?_
                  refine pw_iload r_12_says_63 rfl ?_
                  refine pw_iload r_12_says_64 rfl ?_
                  refine pw_iload r_12_says_65 rfl ?_
                  refine pw_const r_12_says_66 ?_
                  refine pw_idivN r_12_says_68 (by omega) (by omega) (by omega) ?_
                  refine pw_iload r_12_says_69 rfl ?_
                  refine pw_iload r_12_says_71 rfl ?_
                  refine pw_callV (av := [vI (t), vI (p), vI ((u / 10)), vI (d0), vI (k)]) (st := []) (ls0 := [some (vR 12 (0)), some (vI (t)), some (vI (p)), some (vI ((u / 10))), some (vI (d0)), some (vI (k)), none, none]) r_12_says_73 rfl rfl rfl (Nat.le_refl _) ?_
                  refine sp_X12_saidOf (SD := SD) (FC := FC) (KC := KC) (t := t) (p := p) (z := (u / 10)) (by exact hsz) (by exact hf) (by exact hlt) (by exact hofs) (by exact hsent) (by exact hpr) (by exact htx) (by exact hTX) (by exact hSD) (by exact hFC) (by exact hKC) (by first | omega | (show 0 ≤ p ∧ p < (gF G 12 0 17); omega)) (by exact hcA p (by omega) (by omega)) (by omega) (by omega) (by omega) ?_
                  intro q1 q2
                  refine pw_istore (ls' := [some (vR 12 (0)), some (vI (t)), some (vI (p)), some (vI (u)), some (vI (d0)), some (vI (k)), some (vI ((SD t (u / 10) p d0 k).2))]) r_12_says_76 rfl rfl ?_
                  refine pw_iload r_12_says_78 rfl ?_
                  refine pw_const r_12_says_79 ?_
                  refine pw_iremN r_12_says_81 (by omega) (by omega) ?_
                  refine pw_if_ne r_12_says_82 (fun h82 => ?_) (fun h82 => ?_)
                  · skip
                    refine pw_aload r_12_says_90 rfl ?_
                    refine pw_getI r_12_says_91 fs_12_50 (by decide) ?_
                    refine pw_top (b := q1.2.2.2.2.2.2) (rfl) ?_
                    refine pw_iret r_12_says_94 rfl (Nat.le_refl _) ⟨rfl, ?_⟩
                    exact h2 (by omega) q1 _ (Or.inr ⟨by omega, q2⟩)
                  · skip
                    refine pw_iload r_12_says_85 rfl ?_
                    refine pw_goto r_12_says_87 ?_
                    refine pw_iret r_12_says_94 rfl (Nat.le_refl _) ⟨rfl, ?_⟩
                    exact h2 (by omega) q1 _ (Or.inl ⟨by omega, rfl⟩)
                · skip
                  refine pw_const r_12_says_58 ?_
                  refine pw_iret r_12_says_61 rfl (Nat.le_refl _) ⟨rfl, ?_⟩
                  exact h1 (by omega)
