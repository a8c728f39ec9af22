def sqM (G : PH) (L : Int) : SSt := (gA G 252 0, gA G 253 0, L, gF G 12 0 77, gA G 254 0, gA G 255 0)
theorem unl_or {x : Int} : (x = 1000000000 ∧ unl x = -1) ∨ (x ≠ 1000000000 ∧ unl x = x) := by
  unfold unl
  by_cases h : x = 1000000000
  · rw [if_pos h]; exact Or.inl ⟨h, rfl⟩
  · rw [if_neg h]; exact Or.inr ⟨h, rfl⟩
theorem unl_ne {x : Int} (h : x ≠ 1000000000) : unl x = x := if_neg h
theorem shpM_self {G : PH} {L : Int} (h : gF G 12 0 78 = unl L) : shpM G (sqM G L) = G := by
  unfold sqM
  rw [shpM_kp, ← h]
  exact (congrArg (fun z => uA (uA (sF z 12 0 77 (gF G 12 0 77)) 254 0 (gA G 254 0)) 255 0 (gA G 255 0)) (sF_self G 12 0 78)).trans ((congrArg (fun z => uA (uA z 254 0 (gA G 254 0)) 255 0 (gA G 255 0)) (sF_self G 12 0 77)).trans (by rw [uA_own, uA_own]))
theorem sqM_2 (G : PH) (q : SSt) (i v u L : Int) : sqM (sA (sA (shpM G q) 252 0 i v) 253 0 i u) L = (upA q.1 i v, upA q.2.1 i u, L, q.2.2.2) := by
  rw [shpM_ts, shpM_td]; rfl

theorem wd_f12_455 : Cond.fieldLink "NameRollsModel" 455 "NameRollsModel" "soonest" "I" ∈ UW := UW7_at 146 (by decide +kernel) rfl
theorem wd_f12_461 : Cond.fieldLink "NameRollsModel" 461 "NameRollsModel" "shipStretchers" "I" ∈ UW := UW7_at 147 (by decide +kernel) rfl
theorem wd_f12_464 : Cond.fieldLink "NameRollsModel" 464 "NameRollsModel" "shipFeet" "I" ∈ UW := UW7_at 148 (by decide +kernel) rfl
theorem wd_f12_177 : Cond.fieldLink "NameRollsModel" 177 "NameRollsModel" "trying" "[I" ∈ UW := UW7_at 141 (by decide +kernel) rfl
theorem wd_f12_180 : Cond.fieldLink "NameRollsModel" 180 "NameRollsModel" "tryingDay" "[I" ∈ UW := UW7_at 142 (by decide +kernel) rfl
theorem wd_f12_467 : Cond.fieldLink "NameRollsModel" 467 "NameRollsModel" "shipTurn" "I" ∈ UW := UW7_at 149 (by decide +kernel) rfl
theorem wd_m12_470 : Cond.methodLink "NameRollsModel" 470 M_X12_sails.1 ∈ UW := UW10_at 10 (by decide +kernel) rfl
theorem wd_s12_sails : Cond.selects M_X12_sails.1.cls M_X12_sails.1 M_X12_sails.1 ∈ UW := UWp_at 97 (by decide +kernel) rfl
theorem wd_f12_174 : Cond.fieldLink "NameRollsModel" 174 "NameRollsModel" "ready" "[I" ∈ UW := UW7_at 140 (by decide +kernel) rfl
theorem r_12_sails_0 : RA M_X12_sails 0 0 1 := Or.inl ⟨0, by decide +kernel, rfl, rfl⟩
theorem r_12_sails_1 : RG M_X12_sails 1 12 78 4 := ⟨455, _, by decide +kernel, rfl, by decide, wd_f12_455, rfl, rfl⟩
theorem r_12_sails_4 : RB M_X12_sails 4 (.ifCond .lt) 17 7 := ⟨13, by decide +kernel, rfl, rfl⟩
theorem r_12_sails_17 : RL M_X12_sails 17 2 18 := Or.inl ⟨2, by decide +kernel, rfl, rfl⟩
theorem r_12_sails_18 : RB M_X12_sails 18 (.ifCond .ne) 76 21 := ⟨58, by decide +kernel, rfl, rfl⟩
theorem r_12_sails_76 : RC M_X12_sails 76 1 77 := ⟨⟨by decide, by decide⟩, Or.inl ⟨by decide +kernel, rfl⟩⟩
theorem r_12_sails_77 : RS M_X12_sails 77 5 79 := ⟨by decide, Or.inr ⟨by decide +kernel, rfl⟩⟩
theorem r_12_sails_79 : RL M_X12_sails 79 5 81 := Or.inr ⟨by decide +kernel, rfl⟩
theorem r_12_sails_81 : RL M_X12_sails 81 2 82 := Or.inl ⟨2, by decide +kernel, rfl, rfl⟩
theorem r_12_sails_82 : RB M_X12_sails 82 (.if_icmp .gt) 253 85 := ⟨171, by decide +kernel, rfl, rfl⟩
theorem r_12_sails_253 : RW M_X12_sails 253 .return_ 254 1 := ⟨by decide +kernel, rfl⟩
theorem r_12_sails_85 : RC M_X12_sails 85 0 86 := ⟨⟨by decide, by decide⟩, Or.inl ⟨by decide +kernel, rfl⟩⟩
theorem r_12_sails_86 : RS M_X12_sails 86 6 88 := ⟨by decide, Or.inr ⟨by decide +kernel, rfl⟩⟩
theorem r_12_sails_88 : RC M_X12_sails 88 0 89 := ⟨⟨by decide, by decide⟩, Or.inl ⟨by decide +kernel, rfl⟩⟩
theorem r_12_sails_89 : RS M_X12_sails 89 7 91 := ⟨by decide, Or.inr ⟨by decide +kernel, rfl⟩⟩
theorem r_12_sails_91 : RL M_X12_sails 91 3 92 := Or.inl ⟨3, by decide +kernel, rfl, rfl⟩
theorem r_12_sails_92 : RS M_X12_sails 92 8 94 := ⟨by decide, Or.inr ⟨by decide +kernel, rfl⟩⟩
theorem r_12_sails_94 : RC M_X12_sails 94 0 95 := ⟨⟨by decide, by decide⟩, Or.inl ⟨by decide +kernel, rfl⟩⟩
theorem r_12_sails_95 : RS M_X12_sails 95 9 97 := ⟨by decide, Or.inr ⟨by decide +kernel, rfl⟩⟩
theorem r_12_sails_97 : RL M_X12_sails 97 9 99 := Or.inr ⟨by decide +kernel, rfl⟩
theorem r_12_sails_99 : RA M_X12_sails 99 0 100 := Or.inl ⟨0, by decide +kernel, rfl, rfl⟩
theorem r_12_sails_100 : RG M_X12_sails 100 12 71 103 := ⟨452, _, by decide +kernel, rfl, by decide, wd_f12_452, rfl, rfl⟩
theorem r_12_sails_103 : RB M_X12_sails 103 (.if_icmp .ge) 173 106 := ⟨70, by decide +kernel, rfl, rfl⟩
theorem r_12_sails_173 : RL M_X12_sails 173 5 175 := Or.inr ⟨by decide +kernel, rfl⟩
theorem r_12_sails_175 : RL M_X12_sails 175 2 176 := Or.inl ⟨2, by decide +kernel, rfl, rfl⟩
theorem r_12_sails_176 : RC M_X12_sails 176 (-1) 177 := ⟨⟨by decide, by decide⟩, Or.inl ⟨by decide +kernel, rfl⟩⟩
theorem r_12_sails_177 : RW M_X12_sails 177 .ixor 178 1 := ⟨by decide +kernel, rfl⟩
theorem r_12_sails_178 : RW M_X12_sails 178 .iand 179 1 := ⟨by decide +kernel, rfl⟩
theorem r_12_sails_179 : RB M_X12_sails 179 (.ifCond .ne) 247 182 := ⟨68, by decide +kernel, rfl, rfl⟩
theorem r_12_sails_247 : RI M_X12_sails 247 5 1 250 := ⟨by decide, by decide +kernel, rfl⟩
theorem r_12_sails_250 : RB M_X12_sails 250 .goto 79 253 := ⟨(-171), by decide +kernel, rfl, rfl⟩
theorem r_12_sails_182 : RL M_X12_sails 182 6 184 := Or.inr ⟨by decide +kernel, rfl⟩
theorem r_12_sails_184 : RA M_X12_sails 184 0 185 := Or.inl ⟨0, by decide +kernel, rfl, rfl⟩
theorem r_12_sails_185 : RG M_X12_sails 185 12 79 188 := ⟨461, _, by decide +kernel, rfl, by decide, wd_f12_461, rfl, rfl⟩
theorem r_12_sails_188 : RB M_X12_sails 188 (.if_icmp .gt) 247 191 := ⟨59, by decide +kernel, rfl, rfl⟩
theorem r_12_sails_191 : RL M_X12_sails 191 7 193 := Or.inr ⟨by decide +kernel, rfl⟩
theorem r_12_sails_193 : RA M_X12_sails 193 0 194 := Or.inl ⟨0, by decide +kernel, rfl, rfl⟩
theorem r_12_sails_194 : RG M_X12_sails 194 12 80 197 := ⟨464, _, by decide +kernel, rfl, by decide, wd_f12_464, rfl, rfl⟩
theorem r_12_sails_197 : RB M_X12_sails 197 (.if_icmp .gt) 247 200 := ⟨50, by decide +kernel, rfl, rfl⟩
theorem r_12_sails_200 : RA M_X12_sails 200 0 201 := Or.inl ⟨0, by decide +kernel, rfl, rfl⟩
theorem r_12_sails_201 : RG M_X12_sails 201 12 73 204 := ⟨177, _, by decide +kernel, rfl, by decide, wd_f12_177, rfl, rfl⟩
theorem r_12_sails_204 : RL M_X12_sails 204 1 205 := Or.inl ⟨1, by decide +kernel, rfl, rfl⟩
theorem r_12_sails_205 : RL M_X12_sails 205 5 207 := Or.inr ⟨by decide +kernel, rfl⟩
theorem r_12_sails_207 : RW M_X12_sails 207 .iastore 208 1 := ⟨by decide +kernel, rfl⟩
theorem r_12_sails_208 : RA M_X12_sails 208 0 209 := Or.inl ⟨0, by decide +kernel, rfl, rfl⟩
theorem r_12_sails_209 : RG M_X12_sails 209 12 74 212 := ⟨180, _, by decide +kernel, rfl, by decide, wd_f12_180, rfl, rfl⟩
theorem r_12_sails_212 : RL M_X12_sails 212 1 213 := Or.inl ⟨1, by decide +kernel, rfl, rfl⟩
theorem r_12_sails_213 : RL M_X12_sails 213 8 215 := Or.inr ⟨by decide +kernel, rfl⟩
theorem r_12_sails_215 : RW M_X12_sails 215 .iastore 216 1 := ⟨by decide +kernel, rfl⟩
theorem r_12_sails_216 : RA M_X12_sails 216 0 217 := Or.inl ⟨0, by decide +kernel, rfl, rfl⟩
theorem r_12_sails_217 : RL M_X12_sails 217 1 218 := Or.inl ⟨1, by decide +kernel, rfl, rfl⟩
theorem r_12_sails_218 : RC M_X12_sails 218 1 219 := ⟨⟨by decide, by decide⟩, Or.inl ⟨by decide +kernel, rfl⟩⟩
theorem r_12_sails_219 : RW M_X12_sails 219 .iadd 220 1 := ⟨by decide +kernel, rfl⟩
theorem r_12_sails_220 : RL M_X12_sails 220 2 221 := Or.inl ⟨2, by decide +kernel, rfl, rfl⟩
theorem r_12_sails_221 : RL M_X12_sails 221 5 223 := Or.inr ⟨by decide +kernel, rfl⟩
theorem r_12_sails_223 : RC M_X12_sails 223 (-1) 224 := ⟨⟨by decide, by decide⟩, Or.inl ⟨by decide +kernel, rfl⟩⟩
theorem r_12_sails_224 : RW M_X12_sails 224 .ixor 225 1 := ⟨by decide +kernel, rfl⟩
theorem r_12_sails_225 : RW M_X12_sails 225 .iand 226 1 := ⟨by decide +kernel, rfl⟩
theorem r_12_sails_226 : RL M_X12_sails 226 8 228 := Or.inr ⟨by decide +kernel, rfl⟩
theorem r_12_sails_228 : RA M_X12_sails 228 0 229 := Or.inl ⟨0, by decide +kernel, rfl, rfl⟩
theorem r_12_sails_229 : RG M_X12_sails 229 12 81 232 := ⟨467, _, by decide +kernel, rfl, by decide, wd_f12_467, rfl, rfl⟩
theorem r_12_sails_232 : RW M_X12_sails 232 .iadd 233 1 := ⟨by decide +kernel, rfl⟩
theorem r_12_sails_233 : RL M_X12_sails 233 4 235 := Or.inr ⟨by decide +kernel, rfl⟩
theorem r_12_sails_235 : RL M_X12_sails 235 6 237 := Or.inr ⟨by decide +kernel, rfl⟩
theorem r_12_sails_237 : RL M_X12_sails 237 7 239 := Or.inr ⟨by decide +kernel, rfl⟩
theorem r_12_sails_239 : RW M_X12_sails 239 .iadd 240 1 := ⟨by decide +kernel, rfl⟩
theorem r_12_sails_240 : RL M_X12_sails 240 8 242 := Or.inr ⟨by decide +kernel, rfl⟩
theorem r_12_sails_242 : RW M_X12_sails 242 .imul 243 1 := ⟨by decide +kernel, rfl⟩
theorem r_12_sails_243 : RW M_X12_sails 243 .iadd 244 1 := ⟨by decide +kernel, rfl⟩
theorem r_12_sails_244 : RKv M_X12_sails M_X12_sails 244 4 12 247 := ⟨470, by decide +kernel, wd_m12_470, ok_M_X12_sails, wd_s12_sails, rfl⟩
theorem r_12_sails_106 : RL M_X12_sails 106 5 108 := Or.inr ⟨by decide +kernel, rfl⟩
theorem r_12_sails_108 : RL M_X12_sails 108 9 110 := Or.inr ⟨by decide +kernel, rfl⟩
theorem r_12_sails_110 : RW M_X12_sails 110 .ishr 111 1 := ⟨by decide +kernel, rfl⟩
theorem r_12_sails_111 : RC M_X12_sails 111 1 112 := ⟨⟨by decide, by decide⟩, Or.inl ⟨by decide +kernel, rfl⟩⟩
theorem r_12_sails_112 : RW M_X12_sails 112 .iand 113 1 := ⟨by decide +kernel, rfl⟩
theorem r_12_sails_113 : RC M_X12_sails 113 1 114 := ⟨⟨by decide, by decide⟩, Or.inl ⟨by decide +kernel, rfl⟩⟩
theorem r_12_sails_114 : RB M_X12_sails 114 (.if_icmp .ne) 167 117 := ⟨53, by decide +kernel, rfl, rfl⟩
theorem r_12_sails_167 : RI M_X12_sails 167 9 1 170 := ⟨by decide, by decide +kernel, rfl⟩
theorem r_12_sails_170 : RB M_X12_sails 170 .goto 97 173 := ⟨(-73), by decide +kernel, rfl, rfl⟩
theorem r_12_sails_117 : RL M_X12_sails 117 6 119 := Or.inr ⟨by decide +kernel, rfl⟩
theorem r_12_sails_119 : RA M_X12_sails 119 0 120 := Or.inl ⟨0, by decide +kernel, rfl, rfl⟩
theorem r_12_sails_120 : RG M_X12_sails 120 12 69 123 := ⟨168, _, by decide +kernel, rfl, by decide, wd_f12_168, rfl, rfl⟩
theorem r_12_sails_123 : RL M_X12_sails 123 9 125 := Or.inr ⟨by decide +kernel, rfl⟩
theorem r_12_sails_125 : RW M_X12_sails 125 .iaload 126 1 := ⟨by decide +kernel, rfl⟩
theorem r_12_sails_126 : RW M_X12_sails 126 .iadd 127 1 := ⟨by decide +kernel, rfl⟩
theorem r_12_sails_127 : RS M_X12_sails 127 6 129 := ⟨by decide, Or.inr ⟨by decide +kernel, rfl⟩⟩
theorem r_12_sails_129 : RL M_X12_sails 129 7 131 := Or.inr ⟨by decide +kernel, rfl⟩
theorem r_12_sails_131 : RA M_X12_sails 131 0 132 := Or.inl ⟨0, by decide +kernel, rfl, rfl⟩
theorem r_12_sails_132 : RG M_X12_sails 132 12 70 135 := ⟨171, _, by decide +kernel, rfl, by decide, wd_f12_171, rfl, rfl⟩
theorem r_12_sails_135 : RL M_X12_sails 135 9 137 := Or.inr ⟨by decide +kernel, rfl⟩
theorem r_12_sails_137 : RW M_X12_sails 137 .iaload 138 1 := ⟨by decide +kernel, rfl⟩
theorem r_12_sails_138 : RW M_X12_sails 138 .iadd 139 1 := ⟨by decide +kernel, rfl⟩
theorem r_12_sails_139 : RS M_X12_sails 139 7 141 := ⟨by decide, Or.inr ⟨by decide +kernel, rfl⟩⟩
theorem r_12_sails_141 : RA M_X12_sails 141 0 142 := Or.inl ⟨0, by decide +kernel, rfl, rfl⟩
theorem r_12_sails_142 : RG M_X12_sails 142 12 72 145 := ⟨174, _, by decide +kernel, rfl, by decide, wd_f12_174, rfl, rfl⟩
theorem r_12_sails_145 : RL M_X12_sails 145 9 147 := Or.inr ⟨by decide +kernel, rfl⟩
theorem r_12_sails_147 : RW M_X12_sails 147 .iaload 148 1 := ⟨by decide +kernel, rfl⟩
theorem r_12_sails_148 : RL M_X12_sails 148 8 150 := Or.inr ⟨by decide +kernel, rfl⟩
theorem r_12_sails_150 : RB M_X12_sails 150 (.if_icmp .le) 163 153 := ⟨13, by decide +kernel, rfl, rfl⟩
theorem r_12_sails_163 : RL M_X12_sails 163 8 165 := Or.inr ⟨by decide +kernel, rfl⟩
theorem r_12_sails_165 : RS M_X12_sails 165 8 167 := ⟨by decide, Or.inr ⟨by decide +kernel, rfl⟩⟩
theorem r_12_sails_153 : RA M_X12_sails 153 0 154 := Or.inl ⟨0, by decide +kernel, rfl, rfl⟩
theorem r_12_sails_154 : RG M_X12_sails 154 12 72 157 := ⟨174, _, by decide +kernel, rfl, by decide, wd_f12_174, rfl, rfl⟩
theorem r_12_sails_157 : RL M_X12_sails 157 9 159 := Or.inr ⟨by decide +kernel, rfl⟩
theorem r_12_sails_159 : RW M_X12_sails 159 .iaload 160 1 := ⟨by decide +kernel, rfl⟩
theorem r_12_sails_160 : RB M_X12_sails 160 .goto 165 163 := ⟨5, by decide +kernel, rfl, rfl⟩
theorem r_12_sails_21 : RA M_X12_sails 21 0 22 := Or.inl ⟨0, by decide +kernel, rfl, rfl⟩
theorem r_12_sails_22 : RL M_X12_sails 22 4 24 := Or.inr ⟨by decide +kernel, rfl⟩
theorem r_12_sails_24 : RP M_X12_sails 24 12 78 27 := ⟨455, _, by decide +kernel, rfl, by decide, wd_f12_455, rfl, Or.inl rfl, rfl⟩
theorem r_12_sails_27 : RA M_X12_sails 27 0 28 := Or.inl ⟨0, by decide +kernel, rfl, rfl⟩
theorem r_12_sails_28 : RL M_X12_sails 28 1 29 := Or.inl ⟨1, by decide +kernel, rfl, rfl⟩
theorem r_12_sails_29 : RP M_X12_sails 29 12 77 32 := ⟨458, _, by decide +kernel, rfl, by decide, wd_f12_458, rfl, Or.inl rfl, rfl⟩
theorem r_12_sails_32 : RC M_X12_sails 32 0 33 := ⟨⟨by decide, by decide⟩, Or.inl ⟨by decide +kernel, rfl⟩⟩
theorem r_12_sails_33 : RS M_X12_sails 33 5 35 := ⟨by decide, Or.inr ⟨by decide +kernel, rfl⟩⟩
theorem r_12_sails_35 : RL M_X12_sails 35 5 37 := Or.inr ⟨by decide +kernel, rfl⟩
theorem r_12_sails_37 : RL M_X12_sails 37 1 38 := Or.inl ⟨1, by decide +kernel, rfl, rfl⟩
theorem r_12_sails_38 : RB M_X12_sails 38 (.if_icmp .ge) 75 41 := ⟨37, by decide +kernel, rfl, rfl⟩
theorem r_12_sails_75 : RW M_X12_sails 75 .return_ 76 1 := ⟨by decide +kernel, rfl⟩
theorem r_12_sails_41 : RA M_X12_sails 41 0 42 := Or.inl ⟨0, by decide +kernel, rfl, rfl⟩
theorem r_12_sails_42 : RG M_X12_sails 42 12 75 45 := ⟨183, _, by decide +kernel, rfl, by decide, wd_f12_183, rfl, rfl⟩
theorem r_12_sails_45 : RL M_X12_sails 45 5 47 := Or.inr ⟨by decide +kernel, rfl⟩
theorem r_12_sails_47 : RA M_X12_sails 47 0 48 := Or.inl ⟨0, by decide +kernel, rfl, rfl⟩
theorem r_12_sails_48 : RG M_X12_sails 48 12 73 51 := ⟨177, _, by decide +kernel, rfl, by decide, wd_f12_177, rfl, rfl⟩
theorem r_12_sails_51 : RL M_X12_sails 51 5 53 := Or.inr ⟨by decide +kernel, rfl⟩
theorem r_12_sails_53 : RW M_X12_sails 53 .iaload 54 1 := ⟨by decide +kernel, rfl⟩
theorem r_12_sails_54 : RW M_X12_sails 54 .iastore 55 1 := ⟨by decide +kernel, rfl⟩
theorem r_12_sails_55 : RA M_X12_sails 55 0 56 := Or.inl ⟨0, by decide +kernel, rfl, rfl⟩
theorem r_12_sails_56 : RG M_X12_sails 56 12 76 59 := ⟨186, _, by decide +kernel, rfl, by decide, wd_f12_186, rfl, rfl⟩
theorem r_12_sails_59 : RL M_X12_sails 59 5 61 := Or.inr ⟨by decide +kernel, rfl⟩
theorem r_12_sails_61 : RA M_X12_sails 61 0 62 := Or.inl ⟨0, by decide +kernel, rfl, rfl⟩
theorem r_12_sails_62 : RG M_X12_sails 62 12 74 65 := ⟨180, _, by decide +kernel, rfl, by decide, wd_f12_180, rfl, rfl⟩
theorem r_12_sails_65 : RL M_X12_sails 65 5 67 := Or.inr ⟨by decide +kernel, rfl⟩
theorem r_12_sails_67 : RW M_X12_sails 67 .iaload 68 1 := ⟨by decide +kernel, rfl⟩
theorem r_12_sails_68 : RW M_X12_sails 68 .iastore 69 1 := ⟨by decide +kernel, rfl⟩
theorem r_12_sails_69 : RI M_X12_sails 69 5 1 72 := ⟨by decide, by decide +kernel, rfl⟩
theorem r_12_sails_72 : RB M_X12_sails 72 .goto 35 75 := ⟨(-37), by decide +kernel, rfl, rfl⟩
theorem r_12_sails_7 : RL M_X12_sails 7 4 9 := Or.inr ⟨by decide +kernel, rfl⟩
theorem r_12_sails_9 : RA M_X12_sails 9 0 10 := Or.inl ⟨0, by decide +kernel, rfl, rfl⟩
theorem r_12_sails_10 : RG M_X12_sails 10 12 78 13 := ⟨455, _, by decide +kernel, rfl, by decide, wd_f12_455, rfl, rfl⟩
theorem r_12_sails_13 : RB M_X12_sails 13 (.if_icmp .lt) 17 16 := ⟨4, by decide +kernel, rfl, rfl⟩
theorem r_12_sails_16 : RW M_X12_sails 16 .return_ 17 1 := ⟨by decide +kernel, rfl⟩
set_option maxRecDepth 10000 in
theorem sp_X12_sails {l : Launch} {w : Wo} : ∀ (n0 : Nat), ∀ {d : Nat} {G : PH} {P : Option PV → PH → Prop} {n r f m L : Int} {FT : Int → Prop} {PP : Int → Int} {DY : Int → Int → Int} {tn : Int} , ((n0 : Int) + n = 7) → (0 ≤ (gF G 12 0 71) ∧ (gF G 12 0 71) ≤ 6) → (pShl 1 (gF G 12 0 71) ≤ 64) → (0 ≤ n ∧ n ≤ 6 ∧ n + pcF r ≤ 6) → (0 ≤ r ∧ r < pShl 1 (gF G 12 0 71)) → (0 ≤ (gF G 12 0 0)) → ((gF G 12 0 0) ≤ f ∧ f ≤ 762 + 30 * n) → (0 ≤ m ∧ m ≤ 1200000 * n) → ((gF G 12 0 81) = tn ∧ 1 ≤ tn ∧ tn ≤ 30) → (∀ i, 0 ≤ i → i < (gF G 12 0 71) → (0 ≤ (gA G 249 0 (i)) ∧ (gA G 249 0 (i)) ≤ 99) ∧ 0 ≤ (gA G 250 0 (i)) ∧ (gA G 250 0 (i)) ≤ 99) → (∀ i, 0 ≤ i → i < (gF G 12 0 71) → (gA G 251 0 (i)) ≤ 762) → ((fun x => sbI (gA G 249 0) x (gF G 12 0 71) ≤ (gF G 12 0 79) ∧ sbI (gA G 250 0) x (gF G 12 0 71) ≤ (gF G 12 0 80)) = FT) → ((fun x => sbI (gA G 249 0) x (gF G 12 0 71) + sbI (gA G 250 0) x (gF G 12 0 71)) = PP) → ((fun y x => mxI (gA G 251 0) x y (gF G 12 0 71)) = DY) → ((gF G 12 0 78) = unl L ∧ 0 ≤ L ∧ L ≤ 1000000000) → (∀ q : SSt, q = saiN FT PP DY tn n0 n r f m (sqM G L) → (0 ≤ q.2.2.1 ∧ q.2.2.1 ≤ 1000000000) → P none (shpM G q)) → PW l w M_X12_sails (d + n0 + 1) 0 [some (vR 12 (0)), some (vI (n)), some (vI (r)), some (vI (f)), some (vI (m)), none, none, none, none, none] [] G P := by
  intro n0
  induction n0 with
  | zero => intros; exfalso; omega
  | succ nR ihR =>
    intro d G P n r f m L FT PP DY tn hM hlo hsh hi hr hdy hf hm htn hg hR hFT hPP hDY hL hP
    rw [show d + (nR + 1) + 1 = d + nR + 2 by omega]
    have hul := unl_or (x := L)
    refine pw_aload r_12_sails_0 rfl ?_
    refine pw_getI r_12_sails_1 fs_12_78 (by decide) ?_
    refine pw_if_lt r_12_sails_4 (fun h04 => ?_) (fun h04 => ?_)
    · skip
      refine pw_iload r_12_sails_17 rfl ?_
      refine pw_if_ne r_12_sails_18 (fun h18 => ?_) (fun h18 => ?_)
      · skip
        have hpp := pc_pos (a := r) (by omega)
        refine pw_const r_12_sails_76 ?_
        refine pw_istore (ls' := [some (vR 12 (0)), some (vI (n)), some (vI (r)), some (vI (f)), some (vI (m)), some (vI (1)), none, none, none, none]) r_12_sails_77 rfl rfl ?_
        have L79 : ∀ (nF : Nat) (j : Int) (q : SSt), (hj : 1 ≤ j ∧ j ≤ r + 1) → (hs : q = iterI (saiS FT PP DY tn nR n r f m) j (sqM G L)) → (hq : 0 ≤ q.2.2.1 ∧ q.2.2.1 ≤ 1000000000) → (r + 1 - j).toNat < nF → PW l w M_X12_sails (d + nR + 2) 79 [some (vR 12 (0)), some (vI (n)), some (vI (r)), some (vI (f)), some (vI (m)), some (vI (j)), none, none, none, none] [] (shpM G q) P := by
          intro nF
          induction nF with
          | zero => intro _ _ _ _ _ hM; exact absurd hM (Nat.not_lt_zero _)
          | succ nF ih79 =>
            intro j q hj hs hq hM79
            refine pw_iload r_12_sails_79 rfl ?_
            refine pw_iload r_12_sails_81 rfl ?_
            refine pw_icmp_gt r_12_sails_82 (fun h82 => ?_) (fun h82 => ?_)
            · skip
              refine pw_vret r_12_sails_253 rfl (Nat.le_refl _) ⟨rfl, ?_⟩
              have ei : j = r + 1 := by omega
              subst ei
              exact hP q (hs.trans (sai_loop (s := sqM G L) (show m < L by omega) h18).symm) hq
            · skip
              refine pw_const r_12_sails_85 ?_
              refine pw_istore (ls' := [some (vR 12 (0)), some (vI (n)), some (vI (r)), some (vI (f)), some (vI (m)), some (vI (j)), some (vI (0)), none, none, none]) r_12_sails_86 rfl rfl ?_
              refine pw_const r_12_sails_88 ?_
              refine pw_istore (ls' := [some (vR 12 (0)), some (vI (n)), some (vI (r)), some (vI (f)), some (vI (m)), some (vI (j)), some (vI (0)), some (vI (0)), none, none]) r_12_sails_89 rfl rfl ?_
              refine pw_iload r_12_sails_91 rfl ?_
              refine pw_istore (ls' := [some (vR 12 (0)), some (vI (n)), some (vI (r)), some (vI (f)), some (vI (m)), some (vI (j)), some (vI (0)), some (vI (0)), some (vI (f)), none]) r_12_sails_92 rfl rfl ?_
              refine pw_const r_12_sails_94 ?_
              refine pw_istore (ls' := [some (vR 12 (0)), some (vI (n)), some (vI (r)), some (vI (f)), some (vI (m)), some (vI (j)), some (vI (0)), some (vI (0)), some (vI (f)), some (vI (0))]) r_12_sails_95 rfl rfl ?_
              have L97 : ∀ (nF : Nat) (i9 a9 b9 d9 : Int), (hi9 : 0 ≤ i9 ∧ i9 ≤ (gF G 12 0 71)) → (ha9 : a9 = sbI (gA G 249 0) j i9) → (hb9 : b9 = sbI (gA G 250 0) j i9) → (hd9 : d9 = mxI (gA G 251 0) j f i9) → ((gF G 12 0 71) - i9).toNat < nF → PW l w M_X12_sails (d + nR + 2) 97 [some (vR 12 (0)), some (vI (n)), some (vI (r)), some (vI (f)), some (vI (m)), some (vI (j)), some (vI (a9)), some (vI (b9)), some (vI (d9)), some (vI (i9))] [] (shpM G q) P := by
                intro nF
                induction nF with
                | zero => intro _ _ _ _ _ _ _ _ hM; exact absurd hM (Nat.not_lt_zero _)
                | succ nF ih97 =>
                  intro i9 a9 b9 d9 hi9 ha9 hb9 hd9 hM97
                  have hbS := sb_in (w := (gA G 249 0)) (set := j) hi9.1 (fun y a b => (hg y a (by omega)).1)
                  have hbF := sb_in (w := (gA G 250 0)) (set := j) hi9.1 (fun y a b => (hg y a (by omega)).2)
                  have hbD := mx_in (w := (gA G 251 0)) (set := j) (y := f) hi9.1 (fun y a b => hR y a (by omega))
                  refine pw_iload r_12_sails_97 rfl ?_
                  refine pw_aload r_12_sails_99 rfl ?_
                  refine pw_getIv (v := gF G 12 (0) 71) r_12_sails_100 fs_12_71 (by decide) (by first | rfl | simp [gF_sF, gF_sA, gF_uA, gF_sD, gA_sF, gA_sA, gA_uA, gA_sD, gD_sF, gD_sA, gD_uA, gD_sD]) ?_
                  refine pw_icmp_ge r_12_sails_103 (fun h103 => ?_) (fun h103 => ?_)
                  · skip
                    have e9 : i9 = (gF G 12 0 71) := by omega
                    rw [e9] at ha9 hb9 hd9 hbS hbF hbD
                    refine pw_iload r_12_sails_173 rfl ?_
                    refine pw_iload r_12_sails_175 rfl ?_
                    refine pw_const r_12_sails_176 ?_
                    refine pw_ixor r_12_sails_177 ?_
                    refine pw_iand r_12_sails_178 ?_
                    refine pw_if_ne r_12_sails_179 (fun h179 => ?_) (fun h179 => ?_)
                    · skip
                      refine pw_iinc (b := 0) (ls' := [some (vR 12 (0)), some (vI (n)), some (vI (r)), some (vI (f)), some (vI (m)), some (vI ((j + 1))), some (vI (a9)), some (vI (b9)), some (vI (d9)), some (vI (i9))]) r_12_sails_247 rfl rfl (by omega) rfl ?_
                      refine pw_goto r_12_sails_250 ?_
                      refine pw_weakL (ls' := [some (vR 12 (0)), some (vI (n)), some (vI (r)), some (vI (f)), some (vI (m)), some (vI ((j + 1))), none, none, none, none]) (⟨rfl, ⟨rfl, ⟨rfl, ⟨rfl, ⟨rfl, ⟨rfl, trivial⟩⟩⟩⟩⟩⟩) ?_
                      exact ih79 ((j + 1)) (q) (by first | assumption | omega) (by rw [iter_s _ (by omega), ← hs]; exact (sai_f (fun z => by first | exact h179 ((and_not ⟨by omega, by omega⟩ ⟨hr.1, by omega⟩).mpr z.2.1) | (have z2 := z.2.2; rw [← hFT] at z2; have z3 : _ ≤ _ ∧ _ ≤ _ := z2; omega))).symm) (hq) (by omega)
                    · skip
                      refine pw_iload r_12_sails_182 rfl ?_
                      refine pw_aload r_12_sails_184 rfl ?_
                      refine pw_getIv (v := gF G 12 (0) 79) r_12_sails_185 fs_12_79 (by decide) (by first | rfl | simp [gF_sF, gF_sA, gF_uA, gF_sD, gA_sF, gA_sA, gA_uA, gA_sD, gD_sF, gD_sA, gD_uA, gD_sD]) ?_
                      refine pw_icmp_gt r_12_sails_188 (fun h188 => ?_) (fun h188 => ?_)
                      · skip
                        refine pw_iinc (b := 0) (ls' := [some (vR 12 (0)), some (vI (n)), some (vI (r)), some (vI (f)), some (vI (m)), some (vI ((j + 1))), some (vI (a9)), some (vI (b9)), some (vI (d9)), some (vI (i9))]) r_12_sails_247 rfl rfl (by omega) rfl ?_
                        refine pw_goto r_12_sails_250 ?_
                        refine pw_weakL (ls' := [some (vR 12 (0)), some (vI (n)), some (vI (r)), some (vI (f)), some (vI (m)), some (vI ((j + 1))), none, none, none, none]) (⟨rfl, ⟨rfl, ⟨rfl, ⟨rfl, ⟨rfl, ⟨rfl, trivial⟩⟩⟩⟩⟩⟩) ?_
                        exact ih79 ((j + 1)) (q) (by first | assumption | omega) (by rw [iter_s _ (by omega), ← hs]; exact (sai_f (fun z => by first | exact h179 ((and_not ⟨by omega, by omega⟩ ⟨hr.1, by omega⟩).mpr z.2.1) | (have z2 := z.2.2; rw [← hFT] at z2; have z3 : _ ≤ _ ∧ _ ≤ _ := z2; omega))).symm) (hq) (by omega)
                      · skip
                        refine pw_iload r_12_sails_191 rfl ?_
                        refine pw_aload r_12_sails_193 rfl ?_
                        refine pw_getIv (v := gF G 12 (0) 80) r_12_sails_194 fs_12_80 (by decide) (by first | rfl | simp [gF_sF, gF_sA, gF_uA, gF_sD, gA_sF, gA_sA, gA_uA, gA_sD, gD_sF, gD_sA, gD_uA, gD_sD]) ?_
                        refine pw_icmp_gt r_12_sails_197 (fun h197 => ?_) (fun h197 => ?_)
                        · skip
                          refine pw_iinc (b := 0) (ls' := [some (vR 12 (0)), some (vI (n)), some (vI (r)), some (vI (f)), some (vI (m)), some (vI ((j + 1))), some (vI (a9)), some (vI (b9)), some (vI (d9)), some (vI (i9))]) r_12_sails_247 rfl rfl (by omega) rfl ?_
                          refine pw_goto r_12_sails_250 ?_
                          refine pw_weakL (ls' := [some (vR 12 (0)), some (vI (n)), some (vI (r)), some (vI (f)), some (vI (m)), some (vI ((j + 1))), none, none, none, none]) (⟨rfl, ⟨rfl, ⟨rfl, ⟨rfl, ⟨rfl, ⟨rfl, trivial⟩⟩⟩⟩⟩⟩) ?_
                          exact ih79 ((j + 1)) (q) (by first | assumption | omega) (by rw [iter_s _ (by omega), ← hs]; exact (sai_f (fun z => by first | exact h179 ((and_not ⟨by omega, by omega⟩ ⟨hr.1, by omega⟩).mpr z.2.1) | (have z2 := z.2.2; rw [← hFT] at z2; have z3 : _ ≤ _ ∧ _ ≤ _ := z2; omega))).symm) (hq) (by omega)
                        · skip
                          have hjr := (and_not ⟨by omega, by omega⟩ ⟨hr.1, by omega⟩).mp h179
                          have hFTj : FT j := by rw [← hFT]; exact ⟨by omega, by omega⟩
                          have hPj : a9 + b9 = PP j := by rw [← hPP, ha9, hb9]
                          have hDj : d9 = DY f j := by rw [← hDY]; exact hd9
                          have hm9 := mulb (a := PP j) (b := DY f j) ⟨by omega, by omega⟩ ⟨by omega, by omega⟩
                          have hss := sub_set ⟨by omega, by omega⟩ ⟨hr.1, by omega⟩ hjr
                          have hpj := pc_pos (a := j) (by omega)
                          refine pw_aload r_12_sails_200 rfl ?_
                          refine pw_getR r_12_sails_201 fs_12_73 (by decide) ?_
                          refine pw_iload r_12_sails_204 rfl ?_
                          refine pw_iload r_12_sails_205 rfl ?_
                          refine pw_iast r_12_sails_207 sh252 (by omega) (by omega) ?_
                          refine pw_aload r_12_sails_208 rfl ?_
                          refine pw_getR r_12_sails_209 fs_12_74 (by decide) ?_
                          refine pw_iload r_12_sails_212 rfl ?_
                          refine pw_iload r_12_sails_213 rfl ?_
                          refine pw_top (b := DY f j) (hDj) ?_
                          refine pw_iast r_12_sails_215 sh253 (by omega) (by omega) ?_
                          refine pw_aload r_12_sails_216 rfl ?_
                          refine pw_iload r_12_sails_217 rfl ?_
                          refine pw_const r_12_sails_218 ?_
                          refine pw_iadd r_12_sails_219 (by omega) ?_
                          refine pw_iload r_12_sails_220 rfl ?_
                          refine pw_iload r_12_sails_221 rfl ?_
                          refine pw_const r_12_sails_223 ?_
                          refine pw_ixor r_12_sails_224 ?_
                          refine pw_iand r_12_sails_225 ?_
                          refine pw_top (b := r - j) (hss.2) ?_
                          refine pw_iload r_12_sails_226 rfl ?_
                          refine pw_top (b := DY f j) (hDj) ?_
                          refine pw_aload r_12_sails_228 rfl ?_
                          refine pw_getIv (v := gF G 12 (0) 81) r_12_sails_229 fs_12_81 (by decide) (by first | rfl | simp [gF_sF, gF_sA, gF_uA, gF_sD, gA_sF, gA_sA, gA_uA, gA_sD, gD_sF, gD_sA, gD_uA, gD_sD]) ?_
                          refine pw_top (b := tn) (htn.1) ?_
                          refine pw_iadd r_12_sails_232 (by omega) ?_
                          refine pw_iload r_12_sails_233 rfl ?_
                          refine pw_iload r_12_sails_235 rfl ?_
                          refine pw_iload r_12_sails_237 rfl ?_
                          refine pw_iadd r_12_sails_239 (by omega) ?_
                          refine pw_top (b := PP j) (hPj) ?_
                          refine pw_iload r_12_sails_240 rfl ?_
                          refine pw_top (b := DY f j) (hDj) ?_
                          refine pw_imul r_12_sails_242 (by omega) ?_
                          refine pw_iadd r_12_sails_243 (by omega) ?_
                          refine pw_callV (av := [vI ((n + 1)), vI (r - j), vI (((DY f j) + tn)), vI ((m + ((PP j) * (DY f j))))]) (st := []) (ls0 := [some (vR 12 (0)), some (vI ((n + 1))), some (vI (r - j)), some (vI (((DY f j) + tn))), some (vI ((m + ((PP j) * (DY f j))))), none, none, none, none, none]) r_12_sails_244 rfl rfl rfl (Nat.le_refl _) ?_
                          refine ihR (d := d) (FT := FT) (PP := PP) (DY := DY) (tn := tn) (L := q.2.2.1) (by omega) (by exact hlo) (by exact hsh) (by omega) (by show 0 ≤ r - j ∧ r - j < pShl 1 (gF G 12 0 71); omega) (by exact hdy) (by show (gF G 12 0 0) ≤ DY f j + tn ∧ _; omega) (by omega) (by exact htn) (by exact hg) (by exact hR) (by exact hFT) (by exact hPP) (by exact hDY) (by exact ⟨rfl, hq⟩) ?_
                          intro q1 hrec hq1
                          rw [sqM_2] at hrec
                          refine pw_iinc (b := 0) (ls' := [some (vR 12 (0)), some (vI (n)), some (vI (r)), some (vI (f)), some (vI (m)), some (vI ((j + 1))), some (vI (a9)), some (vI (b9)), some (vI (d9)), some (vI (i9))]) r_12_sails_247 rfl rfl (by omega) rfl ?_
                          refine pw_goto r_12_sails_250 ?_
                          refine pw_weakL (ls' := [some (vR 12 (0)), some (vI (n)), some (vI (r)), some (vI (f)), some (vI (m)), some (vI ((j + 1))), none, none, none, none]) (⟨rfl, ⟨rfl, ⟨rfl, ⟨rfl, ⟨rfl, ⟨rfl, trivial⟩⟩⟩⟩⟩⟩) ?_
                          refine pw_eqG (G' := shpM G q1) (by rw [shpM_ts, shpM_td, shpM_shpM]) ?_
                          exact ih79 ((j + 1)) (q1) (by first | assumption | omega) (by rw [iter_s _ (by omega), ← hs, sai_t ⟨hj.1, hjr, hFTj⟩]; exact hrec) (hq1) (by omega)
                  · skip
                    refine pw_iload r_12_sails_106 rfl ?_
                    refine pw_iload r_12_sails_108 rfl ?_
                    refine pw_ishr r_12_sails_110 ?_
                    refine pw_const r_12_sails_111 ?_
                    refine pw_iand r_12_sails_112 ?_
                    refine pw_const r_12_sails_113 ?_
                    refine pw_icmp_ne r_12_sails_114 (fun h114 => ?_) (fun h114 => ?_)
                    · skip
                      refine pw_iinc (b := 0) (ls' := [some (vR 12 (0)), some (vI (n)), some (vI (r)), some (vI (f)), some (vI (m)), some (vI (j)), some (vI (a9)), some (vI (b9)), some (vI (d9)), some (vI ((i9 + 1)))]) r_12_sails_167 rfl rfl (by omega) rfl ?_
                      refine pw_goto r_12_sails_170 ?_
                      exact ih97 ((i9 + 1)) (a9) (b9) (d9) (by first | assumption | omega) (by first | (rw [sb_t hi9.1 (bt1.mpr h114)]; omega) | (rw [sb_f hi9.1 (fun z => h114 (bt1.mp z))]; exact ha9)) (by first | (rw [sb_t hi9.1 (bt1.mpr h114)]; omega) | (rw [sb_f hi9.1 (fun z => h114 (bt1.mp z))]; exact hb9)) (by first | (rw [mx_t hi9.1 (bt1.mpr h114)]; omega) | (rw [mx_f hi9.1 (fun z => h114 (bt1.mp z))]; exact hd9)) (by omega)
                    · skip
                      have hgi := hg i9 hi9.1 (by omega)
                      refine pw_iload r_12_sails_117 rfl ?_
                      refine pw_aload r_12_sails_119 rfl ?_
                      refine pw_getR r_12_sails_120 fs_12_69 (by decide) ?_
                      refine pw_iload r_12_sails_123 rfl ?_
                      refine pw_ialdv (v := gA G 249 (0) (i9)) r_12_sails_125 sh249 (by omega) (by omega) (by first | rfl | simp [gF_sF, gF_sA, gF_uA, gF_sD, gA_sF, gA_sA, gA_uA, gA_sD, gD_sF, gD_sA, gD_uA, gD_sD]) ?_
                      refine pw_iadd r_12_sails_126 (by omega) ?_
                      refine pw_istore (ls' := [some (vR 12 (0)), some (vI (n)), some (vI (r)), some (vI (f)), some (vI (m)), some (vI (j)), some (vI ((a9 + (gA G 249 (0) (i9))))), some (vI (b9)), some (vI (d9)), some (vI (i9))]) r_12_sails_127 rfl rfl ?_
                      refine pw_iload r_12_sails_129 rfl ?_
                      refine pw_aload r_12_sails_131 rfl ?_
                      refine pw_getR r_12_sails_132 fs_12_70 (by decide) ?_
                      refine pw_iload r_12_sails_135 rfl ?_
                      refine pw_ialdv (v := gA G 250 (0) (i9)) r_12_sails_137 sh250 (by omega) (by omega) (by first | rfl | simp [gF_sF, gF_sA, gF_uA, gF_sD, gA_sF, gA_sA, gA_uA, gA_sD, gD_sF, gD_sA, gD_uA, gD_sD]) ?_
                      refine pw_iadd r_12_sails_138 (by omega) ?_
                      refine pw_istore (ls' := [some (vR 12 (0)), some (vI (n)), some (vI (r)), some (vI (f)), some (vI (m)), some (vI (j)), some (vI ((a9 + (gA G 249 (0) (i9))))), some (vI ((b9 + (gA G 250 (0) (i9))))), some (vI (d9)), some (vI (i9))]) r_12_sails_139 rfl rfl ?_
                      refine pw_aload r_12_sails_141 rfl ?_
                      refine pw_getR r_12_sails_142 fs_12_72 (by decide) ?_
                      refine pw_iload r_12_sails_145 rfl ?_
                      refine pw_ialdv (v := gA G 251 (0) (i9)) r_12_sails_147 sh251 (by omega) (by omega) (by first | rfl | simp [gF_sF, gF_sA, gF_uA, gF_sD, gA_sF, gA_sA, gA_uA, gA_sD, gD_sF, gD_sA, gD_uA, gD_sD]) ?_
                      refine pw_iload r_12_sails_148 rfl ?_
                      refine pw_icmp_le r_12_sails_150 (fun h150 => ?_) (fun h150 => ?_)
                      · skip
                        refine pw_iload r_12_sails_163 rfl ?_
                        refine pw_istore (ls' := [some (vR 12 (0)), some (vI (n)), some (vI (r)), some (vI (f)), some (vI (m)), some (vI (j)), some (vI ((a9 + (gA G 249 (0) (i9))))), some (vI ((b9 + (gA G 250 (0) (i9))))), some (vI (d9)), some (vI (i9))]) r_12_sails_165 rfl rfl ?_
                        refine pw_iinc (b := 0) (ls' := [some (vR 12 (0)), some (vI (n)), some (vI (r)), some (vI (f)), some (vI (m)), some (vI (j)), some (vI ((a9 + (gA G 249 (0) (i9))))), some (vI ((b9 + (gA G 250 (0) (i9))))), some (vI (d9)), some (vI ((i9 + 1)))]) r_12_sails_167 rfl rfl (by omega) rfl ?_
                        refine pw_goto r_12_sails_170 ?_
                        exact ih97 ((i9 + 1)) ((a9 + (gA G 249 (0) (i9)))) ((b9 + (gA G 250 (0) (i9)))) (d9) (by first | assumption | omega) (by first | (rw [sb_t hi9.1 (bt1.mpr h114)]; omega) | (rw [sb_f hi9.1 (fun z => h114 (bt1.mp z))]; exact ha9)) (by first | (rw [sb_t hi9.1 (bt1.mpr h114)]; omega) | (rw [sb_f hi9.1 (fun z => h114 (bt1.mp z))]; exact hb9)) (by first | (rw [mx_t hi9.1 (bt1.mpr h114)]; omega) | (rw [mx_f hi9.1 (fun z => h114 (bt1.mp z))]; exact hd9)) (by omega)
                      · skip
                        refine pw_aload r_12_sails_153 rfl ?_
                        refine pw_getR r_12_sails_154 fs_12_72 (by decide) ?_
                        refine pw_iload r_12_sails_157 rfl ?_
                        refine pw_ialdv (v := gA G 251 (0) (i9)) r_12_sails_159 sh251 (by omega) (by omega) (by first | rfl | simp [gF_sF, gF_sA, gF_uA, gF_sD, gA_sF, gA_sA, gA_uA, gA_sD, gD_sF, gD_sA, gD_uA, gD_sD]) ?_
                        refine pw_goto r_12_sails_160 ?_
                        refine pw_istore (ls' := [some (vR 12 (0)), some (vI (n)), some (vI (r)), some (vI (f)), some (vI (m)), some (vI (j)), some (vI ((a9 + (gA G 249 (0) (i9))))), some (vI ((b9 + (gA G 250 (0) (i9))))), some (vI (gA G 251 (0) (i9))), some (vI (i9))]) r_12_sails_165 rfl rfl ?_
                        refine pw_iinc (b := 0) (ls' := [some (vR 12 (0)), some (vI (n)), some (vI (r)), some (vI (f)), some (vI (m)), some (vI (j)), some (vI ((a9 + (gA G 249 (0) (i9))))), some (vI ((b9 + (gA G 250 (0) (i9))))), some (vI (gA G 251 (0) (i9))), some (vI ((i9 + 1)))]) r_12_sails_167 rfl rfl (by omega) rfl ?_
                        refine pw_goto r_12_sails_170 ?_
                        exact ih97 ((i9 + 1)) ((a9 + (gA G 249 (0) (i9)))) ((b9 + (gA G 250 (0) (i9)))) (gA G 251 (0) (i9)) (by first | assumption | omega) (by first | (rw [sb_t hi9.1 (bt1.mpr h114)]; omega) | (rw [sb_f hi9.1 (fun z => h114 (bt1.mp z))]; exact ha9)) (by first | (rw [sb_t hi9.1 (bt1.mpr h114)]; omega) | (rw [sb_f hi9.1 (fun z => h114 (bt1.mp z))]; exact hb9)) (by first | (rw [mx_t hi9.1 (bt1.mpr h114)]; omega) | (rw [mx_f hi9.1 (fun z => h114 (bt1.mp z))]; exact hd9)) (by omega)
              exact L97 _ (0) (0) (0) (f) (by first | assumption | omega) (rfl) (rfl) (rfl) (Nat.lt_succ_self _)
        refine pw_eqG (G' := shpM G (sqM G L)) ((shpM_self hL.1).symm) ?_
        exact L79 _ (1) ((sqM G L)) (by first | assumption | omega) (sai_1.symm) (hL.2) (Nat.lt_succ_self _)
      · skip
        refine pw_aload r_12_sails_21 rfl ?_
        refine pw_iload r_12_sails_22 rfl ?_
        refine pw_putI r_12_sails_24 (by decide +kernel) fs_12_78 (by decide) ?_
        refine pw_aload r_12_sails_27 rfl ?_
        refine pw_iload r_12_sails_28 rfl ?_
        refine pw_putI r_12_sails_29 (by decide +kernel) fs_12_77 (by decide) ?_
        refine pw_const r_12_sails_32 ?_
        refine pw_istore (ls' := [some (vR 12 (0)), some (vI (n)), some (vI (r)), some (vI (f)), some (vI (m)), some (vI (0)), none, none, none, none]) r_12_sails_33 rfl rfl ?_
        have L35 : ∀ (nF : Nat) (k : Int), (hk : 0 ≤ k ∧ k ≤ n) → (n - k).toNat < nF → PW l w M_X12_sails (d + nR + 2) 35 [some (vR 12 (0)), some (vI (n)), some (vI (r)), some (vI (f)), some (vI (m)), some (vI (k)), none, none, none, none] [] (uA (uA (sF (sF G 12 (0) 78 (m)) 12 (0) 77 (n)) 254 (0) (filF (fun _ => True) (gA G 252 0) (gA G 254 0) k)) 255 (0) (filF (fun _ => True) (gA G 253 0) (gA G 255 0) k)) P := by
          intro nF
          induction nF with
          | zero => intro _ _ hM; exact absurd hM (Nat.not_lt_zero _)
          | succ nF ih35 =>
            intro k hk hM35
            refine pw_iload r_12_sails_35 rfl ?_
            refine pw_iload r_12_sails_37 rfl ?_
            refine pw_icmp_ge r_12_sails_38 (fun h38 => ?_) (fun h38 => ?_)
            · skip
              refine pw_vret r_12_sails_75 rfl (Nat.le_refl _) ⟨rfl, ?_⟩
              have hh := hP _ (sai_keep (s := sqM G L) (show m < L by omega) h18).symm ⟨hm.1, by show m ≤ 1000000000; omega⟩
              have hh2 := Eq.mp (congrArg (P none) (shpM_kp G m n _ _)) hh
              rw [unl_ne (show m ≠ 1000000000 by omega)] at hh2
              rw [fil_cpF, fil_cpF, show k = n by omega]
              exact hh2
            · skip
              refine pw_aload r_12_sails_41 rfl ?_
              refine pw_getR r_12_sails_42 fs_12_75 (by decide) ?_
              refine pw_iload r_12_sails_45 rfl ?_
              refine pw_aload r_12_sails_47 rfl ?_
              refine pw_getR r_12_sails_48 fs_12_73 (by decide) ?_
              refine pw_iload r_12_sails_51 rfl ?_
              refine pw_ialdv (v := gA G 252 (0) (k)) r_12_sails_53 sh252 (by omega) (by omega) (by first | rfl | simp [gF_sF, gF_sA, gF_uA, gF_sD, gA_sF, gA_sA, gA_uA, gA_sD, gD_sF, gD_sA, gD_uA, gD_sD]) ?_
              refine pw_iast r_12_sails_54 sh254 (by omega) (by omega) ?_
              refine pw_aload r_12_sails_55 rfl ?_
              refine pw_getR r_12_sails_56 fs_12_76 (by decide) ?_
              refine pw_iload r_12_sails_59 rfl ?_
              refine pw_aload r_12_sails_61 rfl ?_
              refine pw_getR r_12_sails_62 fs_12_74 (by decide) ?_
              refine pw_iload r_12_sails_65 rfl ?_
              refine pw_ialdv (v := gA G 253 (0) (k)) r_12_sails_67 sh253 (by omega) (by omega) (by first | rfl | simp [gF_sF, gF_sA, gF_uA, gF_sD, gA_sF, gA_sA, gA_uA, gA_sD, gD_sF, gD_sA, gD_uA, gD_sD]) ?_
              refine pw_iast r_12_sails_68 sh255 (by omega) (by omega) ?_
              refine pw_iinc (b := 0) (ls' := [some (vR 12 (0)), some (vI (n)), some (vI (r)), some (vI (f)), some (vI (m)), some (vI ((k + 1))), none, none, none, none]) r_12_sails_69 rfl rfl (by omega) rfl ?_
              refine pw_goto r_12_sails_72 ?_
              refine pw_eqG (G' := uA (uA (sF (sF G 12 (0) 78 (m)) 12 (0) 77 (n)) 254 (0) (filF (fun _ => True) (gA G 252 0) (gA G 254 0) (k + 1))) 255 (0) (filF (fun _ => True) (gA G 253 0) (gA G 255 0) (k + 1))) (by rw [sA_uA_ne _ _ _ _ _ _ _ _ (by decide), sA_uA, sA_uA, fil_s (q := fun _ => True) (v := gA G 252 0) hk.1 trivial rfl, fil_s (q := fun _ => True) (v := gA G 253 0) hk.1 trivial rfl]) ?_
              exact ih35 ((k + 1)) (by omega) (by omega)
        refine pw_eqG (G' := uA (uA (sF (sF G 12 (0) 78 (m)) 12 (0) 77 (n)) 254 (0) (filF (fun _ => True) (gA G 252 0) (gA G 254 0) 0)) 255 (0) (filF (fun _ => True) (gA G 253 0) (gA G 255 0) 0)) (by rw [fil_0, fil_0]; show _ = uA (uA (sF (sF G 12 0 78 m) 12 0 77 n) 254 0 (gA (sF (sF G 12 0 78 m) 12 0 77 n) 254 0)) 255 0 (gA (sF (sF G 12 0 78 m) 12 0 77 n) 255 0); rw [uA_own, uA_own]) ?_
        exact L35 _ (0) (by omega) (Nat.lt_succ_self _)
    · skip
      refine pw_iload r_12_sails_7 rfl ?_
      refine pw_aload r_12_sails_9 rfl ?_
      refine pw_getI r_12_sails_10 fs_12_78 (by decide) ?_
      refine pw_icmp_lt r_12_sails_13 (fun h13 => ?_) (fun h13 => ?_)
      · skip
        refine pw_iload r_12_sails_17 rfl ?_
        refine pw_if_ne r_12_sails_18 (fun h18 => ?_) (fun h18 => ?_)
        · skip
          have hpp := pc_pos (a := r) (by omega)
          refine pw_const r_12_sails_76 ?_
          refine pw_istore (ls' := [some (vR 12 (0)), some (vI (n)), some (vI (r)), some (vI (f)), some (vI (m)), some (vI (1)), none, none, none, none]) r_12_sails_77 rfl rfl ?_
          have L79 : ∀ (nF : Nat) (j : Int) (q : SSt), (hj : 1 ≤ j ∧ j ≤ r + 1) → (hs : q = iterI (saiS FT PP DY tn nR n r f m) j (sqM G L)) → (hq : 0 ≤ q.2.2.1 ∧ q.2.2.1 ≤ 1000000000) → (r + 1 - j).toNat < nF → PW l w M_X12_sails (d + nR + 2) 79 [some (vR 12 (0)), some (vI (n)), some (vI (r)), some (vI (f)), some (vI (m)), some (vI (j)), none, none, none, none] [] (shpM G q) P := by
            intro nF
            induction nF with
            | zero => intro _ _ _ _ _ hM; exact absurd hM (Nat.not_lt_zero _)
            | succ nF ih79 =>
              intro j q hj hs hq hM79
              refine pw_iload r_12_sails_79 rfl ?_
              refine pw_iload r_12_sails_81 rfl ?_
              refine pw_icmp_gt r_12_sails_82 (fun h82 => ?_) (fun h82 => ?_)
              · skip
                refine pw_vret r_12_sails_253 rfl (Nat.le_refl _) ⟨rfl, ?_⟩
                have ei : j = r + 1 := by omega
                subst ei
                exact hP q (hs.trans (sai_loop (s := sqM G L) (show m < L by omega) h18).symm) hq
              · skip
                refine pw_const r_12_sails_85 ?_
                refine pw_istore (ls' := [some (vR 12 (0)), some (vI (n)), some (vI (r)), some (vI (f)), some (vI (m)), some (vI (j)), some (vI (0)), none, none, none]) r_12_sails_86 rfl rfl ?_
                refine pw_const r_12_sails_88 ?_
                refine pw_istore (ls' := [some (vR 12 (0)), some (vI (n)), some (vI (r)), some (vI (f)), some (vI (m)), some (vI (j)), some (vI (0)), some (vI (0)), none, none]) r_12_sails_89 rfl rfl ?_
                refine pw_iload r_12_sails_91 rfl ?_
                refine pw_istore (ls' := [some (vR 12 (0)), some (vI (n)), some (vI (r)), some (vI (f)), some (vI (m)), some (vI (j)), some (vI (0)), some (vI (0)), some (vI (f)), none]) r_12_sails_92 rfl rfl ?_
                refine pw_const r_12_sails_94 ?_
                refine pw_istore (ls' := [some (vR 12 (0)), some (vI (n)), some (vI (r)), some (vI (f)), some (vI (m)), some (vI (j)), some (vI (0)), some (vI (0)), some (vI (f)), some (vI (0))]) r_12_sails_95 rfl rfl ?_
                have L97 : ∀ (nF : Nat) (i9 a9 b9 d9 : Int), (hi9 : 0 ≤ i9 ∧ i9 ≤ (gF G 12 0 71)) → (ha9 : a9 = sbI (gA G 249 0) j i9) → (hb9 : b9 = sbI (gA G 250 0) j i9) → (hd9 : d9 = mxI (gA G 251 0) j f i9) → ((gF G 12 0 71) - i9).toNat < nF → PW l w M_X12_sails (d + nR + 2) 97 [some (vR 12 (0)), some (vI (n)), some (vI (r)), some (vI (f)), some (vI (m)), some (vI (j)), some (vI (a9)), some (vI (b9)), some (vI (d9)), some (vI (i9))] [] (shpM G q) P := by
                  intro nF
                  induction nF with
                  | zero => intro _ _ _ _ _ _ _ _ hM; exact absurd hM (Nat.not_lt_zero _)
                  | succ nF ih97 =>
                    intro i9 a9 b9 d9 hi9 ha9 hb9 hd9 hM97
                    have hbS := sb_in (w := (gA G 249 0)) (set := j) hi9.1 (fun y a b => (hg y a (by omega)).1)
                    have hbF := sb_in (w := (gA G 250 0)) (set := j) hi9.1 (fun y a b => (hg y a (by omega)).2)
                    have hbD := mx_in (w := (gA G 251 0)) (set := j) (y := f) hi9.1 (fun y a b => hR y a (by omega))
                    refine pw_iload r_12_sails_97 rfl ?_
                    refine pw_aload r_12_sails_99 rfl ?_
                    refine pw_getIv (v := gF G 12 (0) 71) r_12_sails_100 fs_12_71 (by decide) (by first | rfl | simp [gF_sF, gF_sA, gF_uA, gF_sD, gA_sF, gA_sA, gA_uA, gA_sD, gD_sF, gD_sA, gD_uA, gD_sD]) ?_
                    refine pw_icmp_ge r_12_sails_103 (fun h103 => ?_) (fun h103 => ?_)
                    · skip
                      have e9 : i9 = (gF G 12 0 71) := by omega
                      rw [e9] at ha9 hb9 hd9 hbS hbF hbD
                      refine pw_iload r_12_sails_173 rfl ?_
                      refine pw_iload r_12_sails_175 rfl ?_
                      refine pw_const r_12_sails_176 ?_
                      refine pw_ixor r_12_sails_177 ?_
                      refine pw_iand r_12_sails_178 ?_
                      refine pw_if_ne r_12_sails_179 (fun h179 => ?_) (fun h179 => ?_)
                      · skip
                        refine pw_iinc (b := 0) (ls' := [some (vR 12 (0)), some (vI (n)), some (vI (r)), some (vI (f)), some (vI (m)), some (vI ((j + 1))), some (vI (a9)), some (vI (b9)), some (vI (d9)), some (vI (i9))]) r_12_sails_247 rfl rfl (by omega) rfl ?_
                        refine pw_goto r_12_sails_250 ?_
                        refine pw_weakL (ls' := [some (vR 12 (0)), some (vI (n)), some (vI (r)), some (vI (f)), some (vI (m)), some (vI ((j + 1))), none, none, none, none]) (⟨rfl, ⟨rfl, ⟨rfl, ⟨rfl, ⟨rfl, ⟨rfl, trivial⟩⟩⟩⟩⟩⟩) ?_
                        exact ih79 ((j + 1)) (q) (by first | assumption | omega) (by rw [iter_s _ (by omega), ← hs]; exact (sai_f (fun z => by first | exact h179 ((and_not ⟨by omega, by omega⟩ ⟨hr.1, by omega⟩).mpr z.2.1) | (have z2 := z.2.2; rw [← hFT] at z2; have z3 : _ ≤ _ ∧ _ ≤ _ := z2; omega))).symm) (hq) (by omega)
                      · skip
                        refine pw_iload r_12_sails_182 rfl ?_
                        refine pw_aload r_12_sails_184 rfl ?_
                        refine pw_getIv (v := gF G 12 (0) 79) r_12_sails_185 fs_12_79 (by decide) (by first | rfl | simp [gF_sF, gF_sA, gF_uA, gF_sD, gA_sF, gA_sA, gA_uA, gA_sD, gD_sF, gD_sA, gD_uA, gD_sD]) ?_
                        refine pw_icmp_gt r_12_sails_188 (fun h188 => ?_) (fun h188 => ?_)
                        · skip
                          refine pw_iinc (b := 0) (ls' := [some (vR 12 (0)), some (vI (n)), some (vI (r)), some (vI (f)), some (vI (m)), some (vI ((j + 1))), some (vI (a9)), some (vI (b9)), some (vI (d9)), some (vI (i9))]) r_12_sails_247 rfl rfl (by omega) rfl ?_
                          refine pw_goto r_12_sails_250 ?_
                          refine pw_weakL (ls' := [some (vR 12 (0)), some (vI (n)), some (vI (r)), some (vI (f)), some (vI (m)), some (vI ((j + 1))), none, none, none, none]) (⟨rfl, ⟨rfl, ⟨rfl, ⟨rfl, ⟨rfl, ⟨rfl, trivial⟩⟩⟩⟩⟩⟩) ?_
                          exact ih79 ((j + 1)) (q) (by first | assumption | omega) (by rw [iter_s _ (by omega), ← hs]; exact (sai_f (fun z => by first | exact h179 ((and_not ⟨by omega, by omega⟩ ⟨hr.1, by omega⟩).mpr z.2.1) | (have z2 := z.2.2; rw [← hFT] at z2; have z3 : _ ≤ _ ∧ _ ≤ _ := z2; omega))).symm) (hq) (by omega)
                        · skip
                          refine pw_iload r_12_sails_191 rfl ?_
                          refine pw_aload r_12_sails_193 rfl ?_
                          refine pw_getIv (v := gF G 12 (0) 80) r_12_sails_194 fs_12_80 (by decide) (by first | rfl | simp [gF_sF, gF_sA, gF_uA, gF_sD, gA_sF, gA_sA, gA_uA, gA_sD, gD_sF, gD_sA, gD_uA, gD_sD]) ?_
                          refine pw_icmp_gt r_12_sails_197 (fun h197 => ?_) (fun h197 => ?_)
                          · skip
                            refine pw_iinc (b := 0) (ls' := [some (vR 12 (0)), some (vI (n)), some (vI (r)), some (vI (f)), some (vI (m)), some (vI ((j + 1))), some (vI (a9)), some (vI (b9)), some (vI (d9)), some (vI (i9))]) r_12_sails_247 rfl rfl (by omega) rfl ?_
                            refine pw_goto r_12_sails_250 ?_
                            refine pw_weakL (ls' := [some (vR 12 (0)), some (vI (n)), some (vI (r)), some (vI (f)), some (vI (m)), some (vI ((j + 1))), none, none, none, none]) (⟨rfl, ⟨rfl, ⟨rfl, ⟨rfl, ⟨rfl, ⟨rfl, trivial⟩⟩⟩⟩⟩⟩) ?_
                            exact ih79 ((j + 1)) (q) (by first | assumption | omega) (by rw [iter_s _ (by omega), ← hs]; exact (sai_f (fun z => by first | exact h179 ((and_not ⟨by omega, by omega⟩ ⟨hr.1, by omega⟩).mpr z.2.1) | (have z2 := z.2.2; rw [← hFT] at z2; have z3 : _ ≤ _ ∧ _ ≤ _ := z2; omega))).symm) (hq) (by omega)
                          · skip
                            have hjr := (and_not ⟨by omega, by omega⟩ ⟨hr.1, by omega⟩).mp h179
                            have hFTj : FT j := by rw [← hFT]; exact ⟨by omega, by omega⟩
                            have hPj : a9 + b9 = PP j := by rw [← hPP, ha9, hb9]
                            have hDj : d9 = DY f j := by rw [← hDY]; exact hd9
                            have hm9 := mulb (a := PP j) (b := DY f j) ⟨by omega, by omega⟩ ⟨by omega, by omega⟩
                            have hss := sub_set ⟨by omega, by omega⟩ ⟨hr.1, by omega⟩ hjr
                            have hpj := pc_pos (a := j) (by omega)
                            refine pw_aload r_12_sails_200 rfl ?_
                            refine pw_getR r_12_sails_201 fs_12_73 (by decide) ?_
                            refine pw_iload r_12_sails_204 rfl ?_
                            refine pw_iload r_12_sails_205 rfl ?_
                            refine pw_iast r_12_sails_207 sh252 (by omega) (by omega) ?_
                            refine pw_aload r_12_sails_208 rfl ?_
                            refine pw_getR r_12_sails_209 fs_12_74 (by decide) ?_
                            refine pw_iload r_12_sails_212 rfl ?_
                            refine pw_iload r_12_sails_213 rfl ?_
                            refine pw_top (b := DY f j) (hDj) ?_
                            refine pw_iast r_12_sails_215 sh253 (by omega) (by omega) ?_
                            refine pw_aload r_12_sails_216 rfl ?_
                            refine pw_iload r_12_sails_217 rfl ?_
                            refine pw_const r_12_sails_218 ?_
                            refine pw_iadd r_12_sails_219 (by omega) ?_
                            refine pw_iload r_12_sails_220 rfl ?_
                            refine pw_iload r_12_sails_221 rfl ?_
                            refine pw_const r_12_sails_223 ?_
                            refine pw_ixor r_12_sails_224 ?_
                            refine pw_iand r_12_sails_225 ?_
                            refine pw_top (b := r - j) (hss.2) ?_
                            refine pw_iload r_12_sails_226 rfl ?_
                            refine pw_top (b := DY f j) (hDj) ?_
                            refine pw_aload r_12_sails_228 rfl ?_
                            refine pw_getIv (v := gF G 12 (0) 81) r_12_sails_229 fs_12_81 (by decide) (by first | rfl | simp [gF_sF, gF_sA, gF_uA, gF_sD, gA_sF, gA_sA, gA_uA, gA_sD, gD_sF, gD_sA, gD_uA, gD_sD]) ?_
                            refine pw_top (b := tn) (htn.1) ?_
                            refine pw_iadd r_12_sails_232 (by omega) ?_
                            refine pw_iload r_12_sails_233 rfl ?_
                            refine pw_iload r_12_sails_235 rfl ?_
                            refine pw_iload r_12_sails_237 rfl ?_
                            refine pw_iadd r_12_sails_239 (by omega) ?_
                            refine pw_top (b := PP j) (hPj) ?_
                            refine pw_iload r_12_sails_240 rfl ?_
                            refine pw_top (b := DY f j) (hDj) ?_
                            refine pw_imul r_12_sails_242 (by omega) ?_
                            refine pw_iadd r_12_sails_243 (by omega) ?_
                            refine pw_callV (av := [vI ((n + 1)), vI (r - j), vI (((DY f j) + tn)), vI ((m + ((PP j) * (DY f j))))]) (st := []) (ls0 := [some (vR 12 (0)), some (vI ((n + 1))), some (vI (r - j)), some (vI (((DY f j) + tn))), some (vI ((m + ((PP j) * (DY f j))))), none, none, none, none, none]) r_12_sails_244 rfl rfl rfl (Nat.le_refl _) ?_
                            refine ihR (d := d) (FT := FT) (PP := PP) (DY := DY) (tn := tn) (L := q.2.2.1) (by omega) (by exact hlo) (by exact hsh) (by omega) (by show 0 ≤ r - j ∧ r - j < pShl 1 (gF G 12 0 71); omega) (by exact hdy) (by show (gF G 12 0 0) ≤ DY f j + tn ∧ _; omega) (by omega) (by exact htn) (by exact hg) (by exact hR) (by exact hFT) (by exact hPP) (by exact hDY) (by exact ⟨rfl, hq⟩) ?_
                            intro q1 hrec hq1
                            rw [sqM_2] at hrec
                            refine pw_iinc (b := 0) (ls' := [some (vR 12 (0)), some (vI (n)), some (vI (r)), some (vI (f)), some (vI (m)), some (vI ((j + 1))), some (vI (a9)), some (vI (b9)), some (vI (d9)), some (vI (i9))]) r_12_sails_247 rfl rfl (by omega) rfl ?_
                            refine pw_goto r_12_sails_250 ?_
                            refine pw_weakL (ls' := [some (vR 12 (0)), some (vI (n)), some (vI (r)), some (vI (f)), some (vI (m)), some (vI ((j + 1))), none, none, none, none]) (⟨rfl, ⟨rfl, ⟨rfl, ⟨rfl, ⟨rfl, ⟨rfl, trivial⟩⟩⟩⟩⟩⟩) ?_
                            refine pw_eqG (G' := shpM G q1) (by rw [shpM_ts, shpM_td, shpM_shpM]) ?_
                            exact ih79 ((j + 1)) (q1) (by first | assumption | omega) (by rw [iter_s _ (by omega), ← hs, sai_t ⟨hj.1, hjr, hFTj⟩]; exact hrec) (hq1) (by omega)
                    · skip
                      refine pw_iload r_12_sails_106 rfl ?_
                      refine pw_iload r_12_sails_108 rfl ?_
                      refine pw_ishr r_12_sails_110 ?_
                      refine pw_const r_12_sails_111 ?_
                      refine pw_iand r_12_sails_112 ?_
                      refine pw_const r_12_sails_113 ?_
                      refine pw_icmp_ne r_12_sails_114 (fun h114 => ?_) (fun h114 => ?_)
                      · skip
                        refine pw_iinc (b := 0) (ls' := [some (vR 12 (0)), some (vI (n)), some (vI (r)), some (vI (f)), some (vI (m)), some (vI (j)), some (vI (a9)), some (vI (b9)), some (vI (d9)), some (vI ((i9 + 1)))]) r_12_sails_167 rfl rfl (by omega) rfl ?_
                        refine pw_goto r_12_sails_170 ?_
                        exact ih97 ((i9 + 1)) (a9) (b9) (d9) (by first | assumption | omega) (by first | (rw [sb_t hi9.1 (bt1.mpr h114)]; omega) | (rw [sb_f hi9.1 (fun z => h114 (bt1.mp z))]; exact ha9)) (by first | (rw [sb_t hi9.1 (bt1.mpr h114)]; omega) | (rw [sb_f hi9.1 (fun z => h114 (bt1.mp z))]; exact hb9)) (by first | (rw [mx_t hi9.1 (bt1.mpr h114)]; omega) | (rw [mx_f hi9.1 (fun z => h114 (bt1.mp z))]; exact hd9)) (by omega)
                      · skip
                        have hgi := hg i9 hi9.1 (by omega)
                        refine pw_iload r_12_sails_117 rfl ?_
                        refine pw_aload r_12_sails_119 rfl ?_
                        refine pw_getR r_12_sails_120 fs_12_69 (by decide) ?_
                        refine pw_iload r_12_sails_123 rfl ?_
                        refine pw_ialdv (v := gA G 249 (0) (i9)) r_12_sails_125 sh249 (by omega) (by omega) (by first | rfl | simp [gF_sF, gF_sA, gF_uA, gF_sD, gA_sF, gA_sA, gA_uA, gA_sD, gD_sF, gD_sA, gD_uA, gD_sD]) ?_
                        refine pw_iadd r_12_sails_126 (by omega) ?_
                        refine pw_istore (ls' := [some (vR 12 (0)), some (vI (n)), some (vI (r)), some (vI (f)), some (vI (m)), some (vI (j)), some (vI ((a9 + (gA G 249 (0) (i9))))), some (vI (b9)), some (vI (d9)), some (vI (i9))]) r_12_sails_127 rfl rfl ?_
                        refine pw_iload r_12_sails_129 rfl ?_
                        refine pw_aload r_12_sails_131 rfl ?_
                        refine pw_getR r_12_sails_132 fs_12_70 (by decide) ?_
                        refine pw_iload r_12_sails_135 rfl ?_
                        refine pw_ialdv (v := gA G 250 (0) (i9)) r_12_sails_137 sh250 (by omega) (by omega) (by first | rfl | simp [gF_sF, gF_sA, gF_uA, gF_sD, gA_sF, gA_sA, gA_uA, gA_sD, gD_sF, gD_sA, gD_uA, gD_sD]) ?_
                        refine pw_iadd r_12_sails_138 (by omega) ?_
                        refine pw_istore (ls' := [some (vR 12 (0)), some (vI (n)), some (vI (r)), some (vI (f)), some (vI (m)), some (vI (j)), some (vI ((a9 + (gA G 249 (0) (i9))))), some (vI ((b9 + (gA G 250 (0) (i9))))), some (vI (d9)), some (vI (i9))]) r_12_sails_139 rfl rfl ?_
                        refine pw_aload r_12_sails_141 rfl ?_
                        refine pw_getR r_12_sails_142 fs_12_72 (by decide) ?_
                        refine pw_iload r_12_sails_145 rfl ?_
                        refine pw_ialdv (v := gA G 251 (0) (i9)) r_12_sails_147 sh251 (by omega) (by omega) (by first | rfl | simp [gF_sF, gF_sA, gF_uA, gF_sD, gA_sF, gA_sA, gA_uA, gA_sD, gD_sF, gD_sA, gD_uA, gD_sD]) ?_
                        refine pw_iload r_12_sails_148 rfl ?_
                        refine pw_icmp_le r_12_sails_150 (fun h150 => ?_) (fun h150 => ?_)
                        · skip
                          refine pw_iload r_12_sails_163 rfl ?_
                          refine pw_istore (ls' := [some (vR 12 (0)), some (vI (n)), some (vI (r)), some (vI (f)), some (vI (m)), some (vI (j)), some (vI ((a9 + (gA G 249 (0) (i9))))), some (vI ((b9 + (gA G 250 (0) (i9))))), some (vI (d9)), some (vI (i9))]) r_12_sails_165 rfl rfl ?_
                          refine pw_iinc (b := 0) (ls' := [some (vR 12 (0)), some (vI (n)), some (vI (r)), some (vI (f)), some (vI (m)), some (vI (j)), some (vI ((a9 + (gA G 249 (0) (i9))))), some (vI ((b9 + (gA G 250 (0) (i9))))), some (vI (d9)), some (vI ((i9 + 1)))]) r_12_sails_167 rfl rfl (by omega) rfl ?_
                          refine pw_goto r_12_sails_170 ?_
                          exact ih97 ((i9 + 1)) ((a9 + (gA G 249 (0) (i9)))) ((b9 + (gA G 250 (0) (i9)))) (d9) (by first | assumption | omega) (by first | (rw [sb_t hi9.1 (bt1.mpr h114)]; omega) | (rw [sb_f hi9.1 (fun z => h114 (bt1.mp z))]; exact ha9)) (by first | (rw [sb_t hi9.1 (bt1.mpr h114)]; omega) | (rw [sb_f hi9.1 (fun z => h114 (bt1.mp z))]; exact hb9)) (by first | (rw [mx_t hi9.1 (bt1.mpr h114)]; omega) | (rw [mx_f hi9.1 (fun z => h114 (bt1.mp z))]; exact hd9)) (by omega)
                        · skip
                          refine pw_aload r_12_sails_153 rfl ?_
                          refine pw_getR r_12_sails_154 fs_12_72 (by decide) ?_
                          refine pw_iload r_12_sails_157 rfl ?_
                          refine pw_ialdv (v := gA G 251 (0) (i9)) r_12_sails_159 sh251 (by omega) (by omega) (by first | rfl | simp [gF_sF, gF_sA, gF_uA, gF_sD, gA_sF, gA_sA, gA_uA, gA_sD, gD_sF, gD_sA, gD_uA, gD_sD]) ?_
                          refine pw_goto r_12_sails_160 ?_
                          refine pw_istore (ls' := [some (vR 12 (0)), some (vI (n)), some (vI (r)), some (vI (f)), some (vI (m)), some (vI (j)), some (vI ((a9 + (gA G 249 (0) (i9))))), some (vI ((b9 + (gA G 250 (0) (i9))))), some (vI (gA G 251 (0) (i9))), some (vI (i9))]) r_12_sails_165 rfl rfl ?_
                          refine pw_iinc (b := 0) (ls' := [some (vR 12 (0)), some (vI (n)), some (vI (r)), some (vI (f)), some (vI (m)), some (vI (j)), some (vI ((a9 + (gA G 249 (0) (i9))))), some (vI ((b9 + (gA G 250 (0) (i9))))), some (vI (gA G 251 (0) (i9))), some (vI ((i9 + 1)))]) r_12_sails_167 rfl rfl (by omega) rfl ?_
                          refine pw_goto r_12_sails_170 ?_
                          exact ih97 ((i9 + 1)) ((a9 + (gA G 249 (0) (i9)))) ((b9 + (gA G 250 (0) (i9)))) (gA G 251 (0) (i9)) (by first | assumption | omega) (by first | (rw [sb_t hi9.1 (bt1.mpr h114)]; omega) | (rw [sb_f hi9.1 (fun z => h114 (bt1.mp z))]; exact ha9)) (by first | (rw [sb_t hi9.1 (bt1.mpr h114)]; omega) | (rw [sb_f hi9.1 (fun z => h114 (bt1.mp z))]; exact hb9)) (by first | (rw [mx_t hi9.1 (bt1.mpr h114)]; omega) | (rw [mx_f hi9.1 (fun z => h114 (bt1.mp z))]; exact hd9)) (by omega)
                exact L97 _ (0) (0) (0) (f) (by first | assumption | omega) (rfl) (rfl) (rfl) (Nat.lt_succ_self _)
          refine pw_eqG (G' := shpM G (sqM G L)) ((shpM_self hL.1).symm) ?_
          exact L79 _ (1) ((sqM G L)) (by first | assumption | omega) (sai_1.symm) (hL.2) (Nat.lt_succ_self _)
        · skip
          refine pw_aload r_12_sails_21 rfl ?_
          refine pw_iload r_12_sails_22 rfl ?_
          refine pw_putI r_12_sails_24 (by decide +kernel) fs_12_78 (by decide) ?_
          refine pw_aload r_12_sails_27 rfl ?_
          refine pw_iload r_12_sails_28 rfl ?_
          refine pw_putI r_12_sails_29 (by decide +kernel) fs_12_77 (by decide) ?_
          refine pw_const r_12_sails_32 ?_
          refine pw_istore (ls' := [some (vR 12 (0)), some (vI (n)), some (vI (r)), some (vI (f)), some (vI (m)), some (vI (0)), none, none, none, none]) r_12_sails_33 rfl rfl ?_
          have L35 : ∀ (nF : Nat) (k : Int), (hk : 0 ≤ k ∧ k ≤ n) → (n - k).toNat < nF → PW l w M_X12_sails (d + nR + 2) 35 [some (vR 12 (0)), some (vI (n)), some (vI (r)), some (vI (f)), some (vI (m)), some (vI (k)), none, none, none, none] [] (uA (uA (sF (sF G 12 (0) 78 (m)) 12 (0) 77 (n)) 254 (0) (filF (fun _ => True) (gA G 252 0) (gA G 254 0) k)) 255 (0) (filF (fun _ => True) (gA G 253 0) (gA G 255 0) k)) P := by
            intro nF
            induction nF with
            | zero => intro _ _ hM; exact absurd hM (Nat.not_lt_zero _)
            | succ nF ih35 =>
              intro k hk hM35
              refine pw_iload r_12_sails_35 rfl ?_
              refine pw_iload r_12_sails_37 rfl ?_
              refine pw_icmp_ge r_12_sails_38 (fun h38 => ?_) (fun h38 => ?_)
              · skip
                refine pw_vret r_12_sails_75 rfl (Nat.le_refl _) ⟨rfl, ?_⟩
                have hh := hP _ (sai_keep (s := sqM G L) (show m < L by omega) h18).symm ⟨hm.1, by show m ≤ 1000000000; omega⟩
                have hh2 := Eq.mp (congrArg (P none) (shpM_kp G m n _ _)) hh
                rw [unl_ne (show m ≠ 1000000000 by omega)] at hh2
                rw [fil_cpF, fil_cpF, show k = n by omega]
                exact hh2
              · skip
                refine pw_aload r_12_sails_41 rfl ?_
                refine pw_getR r_12_sails_42 fs_12_75 (by decide) ?_
                refine pw_iload r_12_sails_45 rfl ?_
                refine pw_aload r_12_sails_47 rfl ?_
                refine pw_getR r_12_sails_48 fs_12_73 (by decide) ?_
                refine pw_iload r_12_sails_51 rfl ?_
                refine pw_ialdv (v := gA G 252 (0) (k)) r_12_sails_53 sh252 (by omega) (by omega) (by first | rfl | simp [gF_sF, gF_sA, gF_uA, gF_sD, gA_sF, gA_sA, gA_uA, gA_sD, gD_sF, gD_sA, gD_uA, gD_sD]) ?_
                refine pw_iast r_12_sails_54 sh254 (by omega) (by omega) ?_
                refine pw_aload r_12_sails_55 rfl ?_
                refine pw_getR r_12_sails_56 fs_12_76 (by decide) ?_
                refine pw_iload r_12_sails_59 rfl ?_
                refine pw_aload r_12_sails_61 rfl ?_
                refine pw_getR r_12_sails_62 fs_12_74 (by decide) ?_
                refine pw_iload r_12_sails_65 rfl ?_
                refine pw_ialdv (v := gA G 253 (0) (k)) r_12_sails_67 sh253 (by omega) (by omega) (by first | rfl | simp [gF_sF, gF_sA, gF_uA, gF_sD, gA_sF, gA_sA, gA_uA, gA_sD, gD_sF, gD_sA, gD_uA, gD_sD]) ?_
                refine pw_iast r_12_sails_68 sh255 (by omega) (by omega) ?_
                refine pw_iinc (b := 0) (ls' := [some (vR 12 (0)), some (vI (n)), some (vI (r)), some (vI (f)), some (vI (m)), some (vI ((k + 1))), none, none, none, none]) r_12_sails_69 rfl rfl (by omega) rfl ?_
                refine pw_goto r_12_sails_72 ?_
                refine pw_eqG (G' := uA (uA (sF (sF G 12 (0) 78 (m)) 12 (0) 77 (n)) 254 (0) (filF (fun _ => True) (gA G 252 0) (gA G 254 0) (k + 1))) 255 (0) (filF (fun _ => True) (gA G 253 0) (gA G 255 0) (k + 1))) (by rw [sA_uA_ne _ _ _ _ _ _ _ _ (by decide), sA_uA, sA_uA, fil_s (q := fun _ => True) (v := gA G 252 0) hk.1 trivial rfl, fil_s (q := fun _ => True) (v := gA G 253 0) hk.1 trivial rfl]) ?_
                exact ih35 ((k + 1)) (by omega) (by omega)
          refine pw_eqG (G' := uA (uA (sF (sF G 12 (0) 78 (m)) 12 (0) 77 (n)) 254 (0) (filF (fun _ => True) (gA G 252 0) (gA G 254 0) 0)) 255 (0) (filF (fun _ => True) (gA G 253 0) (gA G 255 0) 0)) (by rw [fil_0, fil_0]; show _ = uA (uA (sF (sF G 12 0 78 m) 12 0 77 n) 254 0 (gA (sF (sF G 12 0 78 m) 12 0 77 n) 254 0)) 255 0 (gA (sF (sF G 12 0 78 m) 12 0 77 n) 255 0); rw [uA_own, uA_own]) ?_
          exact L35 _ (0) (by omega) (Nat.lt_succ_self _)
      · skip
        refine pw_vret r_12_sails_16 rfl (Nat.le_refl _) ⟨rfl, ?_⟩
        have hh := hP (sqM G L) (sai_stop (by show L ≤ m; omega)).symm hL.2
        rw [shpM_self hL.1] at hh
        exact hh
