def tk (x : Int) : Int := if 0 < x then x - 1 else 0
def ps (x : Int) : Int := if 0 < x then 1 else 0
theorem tk_in {x : Int} (h : 0 ≤ x ∧ x ≤ 9) : 0 ≤ tk x ∧ tk x ≤ 9 := by unfold tk; split <;> omega
theorem ps_in {x : Int} : 0 ≤ ps x ∧ ps x ≤ 1 := by unfold ps; split <;> omega
theorem and_2 {c : Int} (h : 0 ≤ c ∧ c < 4) : (2 ≤ c ∧ pAnd c 2 = 2) ∨ (c < 2 ∧ pAnd c 2 = 0) := by
  have key : ∀ x : Nat, x < 4 → (2 ≤ x ∧ pAnd x 2 = 2) ∨ (x < 2 ∧ pAnd x 2 = 0) := by decide +kernel
  have := key c.toNat (by omega)
  rw [Int.toNat_of_nonneg h.1] at this
  omega

theorem wd_f12_474 : Cond.fieldLink "NameRollsModel" 474 "NameRollsModel" "ahead" "I" ∈ UW := UW7_at 153 (by decide +kernel) rfl
theorem wd_f0_26 : Cond.fieldLink "NameRolls$Bridge" 26 "NameRolls$Bridge" "total" "[I" ∈ UW := UW2_at 180 (by decide +kernel) rfl
theorem wd_c0_50 : Cond.constant "NameRolls$Bridge" 50 (Int32.ofInt 1000000000) ∈ UW := UW6_at 105 (by decide +kernel) rfl
theorem wd_f0_20 : Cond.fieldLink "NameRolls$Bridge" 20 "NameRolls$Bridge" "over" "[[I" ∈ UW := UW2_at 178 (by decide +kernel) rfl
theorem wd_m0_62 : Cond.methodLink "NameRolls$Bridge" 62 Lib.Math.abs.name ∈ UW := UW6_at 110 (by decide +kernel) rfl
theorem wd_f0_29 : Cond.fieldLink "NameRolls$Bridge" 29 "NameRolls$Bridge" "least" "[I" ∈ UW := UW2_at 181 (by decide +kernel) rfl
theorem wd_f0_23 : Cond.fieldLink "NameRolls$Bridge" 23 "NameRolls$Bridge" "rests" "[[I" ∈ UW := UW2_at 179 (by decide +kernel) rfl
theorem r_12_behind_0 : RL M_X12_behind 0 1 1 := Or.inl ⟨1, by decide +kernel, rfl, rfl⟩
theorem r_12_behind_1 : RC M_X12_behind 1 1100 4 := ⟨⟨by decide, by decide⟩, Or.inr (Or.inr (Or.inl ⟨by decide +kernel, by decide, rfl⟩))⟩
theorem r_12_behind_4 : RW M_X12_behind 4 .idiv 5 1 := ⟨by decide +kernel, rfl⟩
theorem r_12_behind_5 : RS M_X12_behind 5 3 6 := ⟨by decide, Or.inl ⟨3, by decide +kernel, rfl, rfl⟩⟩
theorem r_12_behind_6 : RL M_X12_behind 6 1 7 := Or.inl ⟨1, by decide +kernel, rfl, rfl⟩
theorem r_12_behind_7 : RC M_X12_behind 7 110 9 := ⟨⟨by decide, by decide⟩, Or.inr (Or.inl ⟨by decide +kernel, by decide, rfl⟩)⟩
theorem r_12_behind_9 : RW M_X12_behind 9 .idiv 10 1 := ⟨by decide +kernel, rfl⟩
theorem r_12_behind_10 : RC M_X12_behind 10 10 12 := ⟨⟨by decide, by decide⟩, Or.inr (Or.inl ⟨by decide +kernel, by decide, rfl⟩)⟩
theorem r_12_behind_12 : RW M_X12_behind 12 .irem 13 1 := ⟨by decide +kernel, rfl⟩
theorem r_12_behind_13 : RS M_X12_behind 13 4 15 := ⟨by decide, Or.inr ⟨by decide +kernel, rfl⟩⟩
theorem r_12_behind_15 : RL M_X12_behind 15 1 16 := Or.inl ⟨1, by decide +kernel, rfl, rfl⟩
theorem r_12_behind_16 : RC M_X12_behind 16 10 18 := ⟨⟨by decide, by decide⟩, Or.inr (Or.inl ⟨by decide +kernel, by decide, rfl⟩)⟩
theorem r_12_behind_18 : RW M_X12_behind 18 .idiv 19 1 := ⟨by decide +kernel, rfl⟩
theorem r_12_behind_19 : RC M_X12_behind 19 11 21 := ⟨⟨by decide, by decide⟩, Or.inr (Or.inl ⟨by decide +kernel, by decide, rfl⟩)⟩
theorem r_12_behind_21 : RW M_X12_behind 21 .irem 22 1 := ⟨by decide +kernel, rfl⟩
theorem r_12_behind_22 : RS M_X12_behind 22 5 24 := ⟨by decide, Or.inr ⟨by decide +kernel, rfl⟩⟩
theorem r_12_behind_24 : RL M_X12_behind 24 1 25 := Or.inl ⟨1, by decide +kernel, rfl, rfl⟩
theorem r_12_behind_25 : RC M_X12_behind 25 10 27 := ⟨⟨by decide, by decide⟩, Or.inr (Or.inl ⟨by decide +kernel, by decide, rfl⟩)⟩
theorem r_12_behind_27 : RW M_X12_behind 27 .irem 28 1 := ⟨by decide +kernel, rfl⟩
theorem r_12_behind_28 : RS M_X12_behind 28 6 30 := ⟨by decide, Or.inr ⟨by decide +kernel, rfl⟩⟩
theorem r_12_behind_64 : RL M_X12_behind 64 2 65 := Or.inl ⟨2, by decide +kernel, rfl, rfl⟩
theorem r_12_behind_103 : RL M_X12_behind 103 4 105 := Or.inr ⟨by decide +kernel, rfl⟩
theorem r_12_behind_105 : RB M_X12_behind 105 (.ifCond .ne) 115 108 := ⟨10, by decide +kernel, rfl, rfl⟩
theorem r_12_behind_128 : RS M_X12_behind 128 4 130 := ⟨by decide, Or.inr ⟨by decide +kernel, rfl⟩⟩
theorem r_12_behind_143 : RS M_X12_behind 143 6 145 := ⟨by decide, Or.inr ⟨by decide +kernel, rfl⟩⟩
theorem r_12_behind_156 : RW M_X12_behind 156 .isub 157 1 := ⟨by decide +kernel, rfl⟩
theorem r_12_behind_157 : RL M_X12_behind 157 5 159 := Or.inr ⟨by decide +kernel, rfl⟩
theorem r_12_behind_159 : RW M_X12_behind 159 .isub 160 1 := ⟨by decide +kernel, rfl⟩
theorem r_12_behind_160 : RL M_X12_behind 160 6 162 := Or.inr ⟨by decide +kernel, rfl⟩
theorem r_12_behind_162 : RB M_X12_behind 162 (.ifCond .le) 169 165 := ⟨7, by decide +kernel, rfl, rfl⟩
theorem r_12_behind_169 : RC M_X12_behind 169 0 170 := ⟨⟨by decide, by decide⟩, Or.inl ⟨by decide +kernel, rfl⟩⟩
theorem r_12_behind_170 : RW M_X12_behind 170 .iadd 171 1 := ⟨by decide +kernel, rfl⟩
theorem r_12_behind_171 : RS M_X12_behind 171 7 173 := ⟨by decide, Or.inr ⟨by decide +kernel, rfl⟩⟩
theorem r_12_behind_173 : RL M_X12_behind 173 7 175 := Or.inr ⟨by decide +kernel, rfl⟩
theorem r_12_behind_175 : RA M_X12_behind 175 0 176 := Or.inl ⟨0, by decide +kernel, rfl, rfl⟩
theorem r_12_behind_176 : RG M_X12_behind 176 12 85 179 := ⟨474, _, by decide +kernel, rfl, by decide, wd_f12_474, rfl, rfl⟩
theorem r_12_behind_179 : RW M_X12_behind 179 .ineg 180 1 := ⟨by decide +kernel, rfl⟩
theorem r_12_behind_180 : RA M_X12_behind 180 0 181 := Or.inl ⟨0, by decide +kernel, rfl, rfl⟩
theorem r_12_behind_181 : RG M_X12_behind 181 12 85 184 := ⟨474, _, by decide +kernel, rfl, by decide, wd_f12_474, rfl, rfl⟩
theorem r_12_behind_184 : RKs M_X12_behind M_X12_within 184 3 187 := ⟨240, by decide +kernel, Or.inl wd_m12_240, ok_M_X12_within, rfl⟩
theorem r_12_behind_187 : RB M_X12_behind 187 (.ifCond .eq) 213 190 := ⟨26, by decide +kernel, rfl, rfl⟩
theorem r_12_behind_213 : RC M_X12_behind 213 (-1) 214 := ⟨⟨by decide, by decide⟩, Or.inl ⟨by decide +kernel, rfl⟩⟩
theorem r_12_behind_214 : RW M_X12_behind 214 .ireturn 215 1 := ⟨by decide +kernel, rfl⟩
theorem r_12_behind_190 : RL M_X12_behind 190 3 191 := Or.inl ⟨3, by decide +kernel, rfl, rfl⟩
theorem r_12_behind_191 : RC M_X12_behind 191 1100 194 := ⟨⟨by decide, by decide⟩, Or.inr (Or.inr (Or.inl ⟨by decide +kernel, by decide, rfl⟩))⟩
theorem r_12_behind_194 : RW M_X12_behind 194 .imul 195 1 := ⟨by decide +kernel, rfl⟩
theorem r_12_behind_195 : RL M_X12_behind 195 4 197 := Or.inr ⟨by decide +kernel, rfl⟩
theorem r_12_behind_197 : RC M_X12_behind 197 110 199 := ⟨⟨by decide, by decide⟩, Or.inr (Or.inl ⟨by decide +kernel, by decide, rfl⟩)⟩
theorem r_12_behind_199 : RW M_X12_behind 199 .imul 200 1 := ⟨by decide +kernel, rfl⟩
theorem r_12_behind_200 : RW M_X12_behind 200 .iadd 201 1 := ⟨by decide +kernel, rfl⟩
theorem r_12_behind_201 : RL M_X12_behind 201 5 203 := Or.inr ⟨by decide +kernel, rfl⟩
theorem r_12_behind_203 : RC M_X12_behind 203 10 205 := ⟨⟨by decide, by decide⟩, Or.inr (Or.inl ⟨by decide +kernel, by decide, rfl⟩)⟩
theorem r_12_behind_205 : RW M_X12_behind 205 .imul 206 1 := ⟨by decide +kernel, rfl⟩
theorem r_12_behind_206 : RW M_X12_behind 206 .iadd 207 1 := ⟨by decide +kernel, rfl⟩
theorem r_12_behind_207 : RL M_X12_behind 207 6 209 := Or.inr ⟨by decide +kernel, rfl⟩
theorem r_12_behind_209 : RW M_X12_behind 209 .iadd 210 1 := ⟨by decide +kernel, rfl⟩
theorem r_12_behind_210 : RB M_X12_behind 210 .goto 214 213 := ⟨4, by decide +kernel, rfl, rfl⟩
theorem r_12_behind_165 : RC M_X12_behind 165 1 166 := ⟨⟨by decide, by decide⟩, Or.inl ⟨by decide +kernel, rfl⟩⟩
theorem r_12_behind_166 : RB M_X12_behind 166 .goto 170 169 := ⟨4, by decide +kernel, rfl, rfl⟩
theorem r_12_behind_145 : RL M_X12_behind 145 3 146 := Or.inl ⟨3, by decide +kernel, rfl, rfl⟩
theorem r_12_behind_146 : RL M_X12_behind 146 4 148 := Or.inr ⟨by decide +kernel, rfl⟩
theorem r_12_behind_148 : RB M_X12_behind 148 (.ifCond .le) 155 151 := ⟨7, by decide +kernel, rfl, rfl⟩
theorem r_12_behind_155 : RC M_X12_behind 155 0 156 := ⟨⟨by decide, by decide⟩, Or.inl ⟨by decide +kernel, rfl⟩⟩
theorem r_12_behind_151 : RC M_X12_behind 151 1 152 := ⟨⟨by decide, by decide⟩, Or.inl ⟨by decide +kernel, rfl⟩⟩
theorem r_12_behind_152 : RB M_X12_behind 152 .goto 156 155 := ⟨4, by decide +kernel, rfl, rfl⟩
theorem r_12_behind_130 : RL M_X12_behind 130 6 132 := Or.inr ⟨by decide +kernel, rfl⟩
theorem r_12_behind_132 : RB M_X12_behind 132 (.ifCond .le) 142 135 := ⟨10, by decide +kernel, rfl, rfl⟩
theorem r_12_behind_142 : RC M_X12_behind 142 0 143 := ⟨⟨by decide, by decide⟩, Or.inl ⟨by decide +kernel, rfl⟩⟩
theorem r_12_behind_135 : RL M_X12_behind 135 6 137 := Or.inr ⟨by decide +kernel, rfl⟩
theorem r_12_behind_137 : RC M_X12_behind 137 1 138 := ⟨⟨by decide, by decide⟩, Or.inl ⟨by decide +kernel, rfl⟩⟩
theorem r_12_behind_138 : RW M_X12_behind 138 .isub 139 1 := ⟨by decide +kernel, rfl⟩
theorem r_12_behind_139 : RB M_X12_behind 139 .goto 143 142 := ⟨4, by decide +kernel, rfl, rfl⟩
theorem r_12_behind_115 : RL M_X12_behind 115 4 117 := Or.inr ⟨by decide +kernel, rfl⟩
theorem r_12_behind_117 : RB M_X12_behind 117 (.ifCond .le) 127 120 := ⟨10, by decide +kernel, rfl, rfl⟩
theorem r_12_behind_127 : RC M_X12_behind 127 0 128 := ⟨⟨by decide, by decide⟩, Or.inl ⟨by decide +kernel, rfl⟩⟩
theorem r_12_behind_120 : RL M_X12_behind 120 4 122 := Or.inr ⟨by decide +kernel, rfl⟩
theorem r_12_behind_122 : RC M_X12_behind 122 1 123 := ⟨⟨by decide, by decide⟩, Or.inl ⟨by decide +kernel, rfl⟩⟩
theorem r_12_behind_123 : RW M_X12_behind 123 .isub 124 1 := ⟨by decide +kernel, rfl⟩
theorem r_12_behind_124 : RB M_X12_behind 124 .goto 128 127 := ⟨4, by decide +kernel, rfl, rfl⟩
theorem r_12_behind_108 : RL M_X12_behind 108 6 110 := Or.inr ⟨by decide +kernel, rfl⟩
theorem r_12_behind_110 : RB M_X12_behind 110 (.ifCond .ne) 115 113 := ⟨5, by decide +kernel, rfl, rfl⟩
theorem r_12_behind_113 : RC M_X12_behind 113 (-1) 114 := ⟨⟨by decide, by decide⟩, Or.inl ⟨by decide +kernel, rfl⟩⟩
theorem r_12_behind_114 : RW M_X12_behind 114 .ireturn 115 1 := ⟨by decide +kernel, rfl⟩
theorem r_12_behind_65 : RC M_X12_behind 65 2 66 := ⟨⟨by decide, by decide⟩, Or.inl ⟨by decide +kernel, rfl⟩⟩
theorem r_12_behind_66 : RW M_X12_behind 66 .iand 67 1 := ⟨by decide +kernel, rfl⟩
theorem r_12_behind_67 : RB M_X12_behind 67 (.ifCond .eq) 103 70 := ⟨36, by decide +kernel, rfl, rfl⟩
theorem r_12_behind_70 : RL M_X12_behind 70 6 72 := Or.inr ⟨by decide +kernel, rfl⟩
theorem r_12_behind_72 : RB M_X12_behind 72 (.ifCond .gt) 86 75 := ⟨14, by decide +kernel, rfl, rfl⟩
theorem r_12_behind_86 : RC M_X12_behind 86 (-1) 87 := ⟨⟨by decide, by decide⟩, Or.inl ⟨by decide +kernel, rfl⟩⟩
theorem r_12_behind_87 : RW M_X12_behind 87 .ireturn 88 1 := ⟨by decide +kernel, rfl⟩
theorem r_12_behind_75 : RL M_X12_behind 75 5 77 := Or.inr ⟨by decide +kernel, rfl⟩
theorem r_12_behind_77 : RA M_X12_behind 77 0 78 := Or.inl ⟨0, by decide +kernel, rfl, rfl⟩
theorem r_12_behind_78 : RG M_X12_behind 78 12 83 81 := ⟨192, _, by decide +kernel, rfl, by decide, wd_f12_192, rfl, rfl⟩
theorem r_12_behind_81 : RC M_X12_behind 81 1 82 := ⟨⟨by decide, by decide⟩, Or.inl ⟨by decide +kernel, rfl⟩⟩
theorem r_12_behind_82 : RW M_X12_behind 82 .iaload 83 1 := ⟨by decide +kernel, rfl⟩
theorem r_12_behind_83 : RB M_X12_behind 83 (.if_icmp .ne) 88 86 := ⟨5, by decide +kernel, rfl, rfl⟩
theorem r_12_behind_88 : RA M_X12_behind 88 0 89 := Or.inl ⟨0, by decide +kernel, rfl, rfl⟩
theorem r_12_behind_89 : RG M_X12_behind 89 12 82 92 := ⟨189, _, by decide +kernel, rfl, by decide, wd_f12_189, rfl, rfl⟩
theorem r_12_behind_92 : RC M_X12_behind 92 10 94 := ⟨⟨by decide, by decide⟩, Or.inr (Or.inl ⟨by decide +kernel, by decide, rfl⟩)⟩
theorem r_12_behind_94 : RL M_X12_behind 94 5 96 := Or.inr ⟨by decide +kernel, rfl⟩
theorem r_12_behind_96 : RW M_X12_behind 96 .iadd 97 1 := ⟨by decide +kernel, rfl⟩
theorem r_12_behind_97 : RW M_X12_behind 97 .iaload 98 1 := ⟨by decide +kernel, rfl⟩
theorem r_12_behind_98 : RS M_X12_behind 98 6 100 := ⟨by decide, Or.inr ⟨by decide +kernel, rfl⟩⟩
theorem r_12_behind_100 : RI M_X12_behind 100 5 1 103 := ⟨by decide, by decide +kernel, rfl⟩
theorem r_12_behind_30 : RL M_X12_behind 30 2 31 := Or.inl ⟨2, by decide +kernel, rfl, rfl⟩
theorem r_12_behind_31 : RC M_X12_behind 31 1 32 := ⟨⟨by decide, by decide⟩, Or.inl ⟨by decide +kernel, rfl⟩⟩
theorem r_12_behind_32 : RW M_X12_behind 32 .iand 33 1 := ⟨by decide +kernel, rfl⟩
theorem r_12_behind_33 : RB M_X12_behind 33 (.ifCond .eq) 64 36 := ⟨31, by decide +kernel, rfl, rfl⟩
theorem r_12_behind_36 : RL M_X12_behind 36 4 38 := Or.inr ⟨by decide +kernel, rfl⟩
theorem r_12_behind_38 : RB M_X12_behind 38 (.ifCond .gt) 51 41 := ⟨13, by decide +kernel, rfl, rfl⟩
theorem r_12_behind_51 : RC M_X12_behind 51 (-1) 52 := ⟨⟨by decide, by decide⟩, Or.inl ⟨by decide +kernel, rfl⟩⟩
theorem r_12_behind_52 : RW M_X12_behind 52 .ireturn 53 1 := ⟨by decide +kernel, rfl⟩
theorem r_12_behind_41 : RL M_X12_behind 41 3 42 := Or.inl ⟨3, by decide +kernel, rfl, rfl⟩
theorem r_12_behind_42 : RA M_X12_behind 42 0 43 := Or.inl ⟨0, by decide +kernel, rfl, rfl⟩
theorem r_12_behind_43 : RG M_X12_behind 43 12 83 46 := ⟨192, _, by decide +kernel, rfl, by decide, wd_f12_192, rfl, rfl⟩
theorem r_12_behind_46 : RC M_X12_behind 46 0 47 := ⟨⟨by decide, by decide⟩, Or.inl ⟨by decide +kernel, rfl⟩⟩
theorem r_12_behind_47 : RW M_X12_behind 47 .iaload 48 1 := ⟨by decide +kernel, rfl⟩
theorem r_12_behind_48 : RB M_X12_behind 48 (.if_icmp .ne) 53 51 := ⟨5, by decide +kernel, rfl, rfl⟩
theorem r_12_behind_53 : RA M_X12_behind 53 0 54 := Or.inl ⟨0, by decide +kernel, rfl, rfl⟩
theorem r_12_behind_54 : RG M_X12_behind 54 12 82 57 := ⟨189, _, by decide +kernel, rfl, by decide, wd_f12_189, rfl, rfl⟩
theorem r_12_behind_57 : RL M_X12_behind 57 3 58 := Or.inl ⟨3, by decide +kernel, rfl, rfl⟩
theorem r_12_behind_58 : RW M_X12_behind 58 .iaload 59 1 := ⟨by decide +kernel, rfl⟩
theorem r_12_behind_59 : RS M_X12_behind 59 4 61 := ⟨by decide, Or.inr ⟨by decide +kernel, rfl⟩⟩
theorem r_12_behind_61 : RI M_X12_behind 61 3 1 64 := ⟨by decide, by decide +kernel, rfl⟩
theorem r_12_choiceOf_0 : RL M_X12_choiceOf 0 0 1 := Or.inl ⟨0, by decide +kernel, rfl, rfl⟩
theorem r_12_choiceOf_1 : RB M_X12_choiceOf 1 (.ifCond .ne) 8 4 := ⟨7, by decide +kernel, rfl, rfl⟩
theorem r_12_choiceOf_8 : RL M_X12_choiceOf 8 0 9 := Or.inl ⟨0, by decide +kernel, rfl, rfl⟩
theorem r_12_choiceOf_9 : RC M_X12_choiceOf 9 3 10 := ⟨⟨by decide, by decide⟩, Or.inl ⟨by decide +kernel, rfl⟩⟩
theorem r_12_choiceOf_10 : RB M_X12_choiceOf 10 (.if_icmp .ne) 17 13 := ⟨7, by decide +kernel, rfl, rfl⟩
theorem r_12_choiceOf_17 : RL M_X12_choiceOf 17 0 18 := Or.inl ⟨0, by decide +kernel, rfl, rfl⟩
theorem r_12_choiceOf_18 : RW M_X12_choiceOf 18 .ireturn 19 1 := ⟨by decide +kernel, rfl⟩
theorem r_12_choiceOf_13 : RC M_X12_choiceOf 13 0 14 := ⟨⟨by decide, by decide⟩, Or.inl ⟨by decide +kernel, rfl⟩⟩
theorem r_12_choiceOf_14 : RB M_X12_choiceOf 14 .goto 18 17 := ⟨4, by decide +kernel, rfl, rfl⟩
theorem r_12_choiceOf_4 : RC M_X12_choiceOf 4 3 5 := ⟨⟨by decide, by decide⟩, Or.inl ⟨by decide +kernel, rfl⟩⟩
theorem r_12_choiceOf_5 : RB M_X12_choiceOf 5 .goto 18 8 := ⟨13, by decide +kernel, rfl, rfl⟩
theorem r_0_leastAfter_0 : RL M_X0_leastAfter 0 3 1 := Or.inl ⟨3, by decide +kernel, rfl, rfl⟩
theorem r_0_leastAfter_1 : RC M_X0_leastAfter 1 1 2 := ⟨⟨by decide, by decide⟩, Or.inl ⟨by decide +kernel, rfl⟩⟩
theorem r_0_leastAfter_2 : RW M_X0_leastAfter 2 .iand 3 1 := ⟨by decide +kernel, rfl⟩
theorem r_0_leastAfter_3 : RS M_X0_leastAfter 3 5 5 := ⟨by decide, Or.inr ⟨by decide +kernel, rfl⟩⟩
theorem r_0_leastAfter_5 : RL M_X0_leastAfter 5 3 6 := Or.inl ⟨3, by decide +kernel, rfl, rfl⟩
theorem r_0_leastAfter_6 : RC M_X0_leastAfter 6 1 7 := ⟨⟨by decide, by decide⟩, Or.inl ⟨by decide +kernel, rfl⟩⟩
theorem r_0_leastAfter_7 : RW M_X0_leastAfter 7 .ishr 8 1 := ⟨by decide +kernel, rfl⟩
theorem r_0_leastAfter_8 : RS M_X0_leastAfter 8 6 10 := ⟨by decide, Or.inr ⟨by decide +kernel, rfl⟩⟩
theorem r_0_leastAfter_10 : RL M_X0_leastAfter 10 5 12 := Or.inr ⟨by decide +kernel, rfl⟩
theorem r_0_leastAfter_12 : RB M_X0_leastAfter 12 (.ifCond .ne) 26 15 := ⟨14, by decide +kernel, rfl, rfl⟩
theorem r_0_leastAfter_26 : RL M_X0_leastAfter 26 6 28 := Or.inr ⟨by decide +kernel, rfl⟩
theorem r_0_leastAfter_28 : RB M_X0_leastAfter 28 (.ifCond .ne) 45 31 := ⟨17, by decide +kernel, rfl, rfl⟩
theorem r_0_leastAfter_45 : RL M_X0_leastAfter 45 1 46 := Or.inl ⟨1, by decide +kernel, rfl, rfl⟩
theorem r_0_leastAfter_46 : RL M_X0_leastAfter 46 5 48 := Or.inr ⟨by decide +kernel, rfl⟩
theorem r_0_leastAfter_48 : RW M_X0_leastAfter 48 .iadd 49 1 := ⟨by decide +kernel, rfl⟩
theorem r_0_leastAfter_49 : RS M_X0_leastAfter 49 7 51 := ⟨by decide, Or.inr ⟨by decide +kernel, rfl⟩⟩
theorem r_0_leastAfter_51 : RL M_X0_leastAfter 51 2 52 := Or.inl ⟨2, by decide +kernel, rfl, rfl⟩
theorem r_0_leastAfter_52 : RL M_X0_leastAfter 52 6 54 := Or.inr ⟨by decide +kernel, rfl⟩
theorem r_0_leastAfter_54 : RW M_X0_leastAfter 54 .iadd 55 1 := ⟨by decide +kernel, rfl⟩
theorem r_0_leastAfter_55 : RS M_X0_leastAfter 55 8 57 := ⟨by decide, Or.inr ⟨by decide +kernel, rfl⟩⟩
theorem r_0_leastAfter_57 : RL M_X0_leastAfter 57 7 59 := Or.inr ⟨by decide +kernel, rfl⟩
theorem r_0_leastAfter_59 : RA M_X0_leastAfter 59 0 60 := Or.inl ⟨0, by decide +kernel, rfl, rfl⟩
theorem r_0_leastAfter_60 : RG M_X0_leastAfter 60 0 4 63 := ⟨26, _, by decide +kernel, rfl, by decide, wd_f0_26, rfl, rfl⟩
theorem r_0_leastAfter_63 : RC M_X0_leastAfter 63 0 64 := ⟨⟨by decide, by decide⟩, Or.inl ⟨by decide +kernel, rfl⟩⟩
theorem r_0_leastAfter_64 : RW M_X0_leastAfter 64 .iaload 65 1 := ⟨by decide +kernel, rfl⟩
theorem r_0_leastAfter_65 : RB M_X0_leastAfter 65 (.if_icmp .gt) 106 68 := ⟨41, by decide +kernel, rfl, rfl⟩
theorem r_0_leastAfter_106 : RC M_X0_leastAfter 106 1000000000 108 := ⟨⟨by decide, by decide⟩, Or.inr (Or.inr (Or.inr (Or.inl ⟨50, by decide +kernel, wd_c0_50, rfl⟩)))⟩
theorem r_0_leastAfter_108 : RW M_X0_leastAfter 108 .ireturn 109 1 := ⟨by decide +kernel, rfl⟩
theorem r_0_leastAfter_68 : RL M_X0_leastAfter 68 8 70 := Or.inr ⟨by decide +kernel, rfl⟩
theorem r_0_leastAfter_70 : RA M_X0_leastAfter 70 0 71 := Or.inl ⟨0, by decide +kernel, rfl, rfl⟩
theorem r_0_leastAfter_71 : RG M_X0_leastAfter 71 0 4 74 := ⟨26, _, by decide +kernel, rfl, by decide, wd_f0_26, rfl, rfl⟩
theorem r_0_leastAfter_74 : RC M_X0_leastAfter 74 1 75 := ⟨⟨by decide, by decide⟩, Or.inl ⟨by decide +kernel, rfl⟩⟩
theorem r_0_leastAfter_75 : RW M_X0_leastAfter 75 .iaload 76 1 := ⟨by decide +kernel, rfl⟩
theorem r_0_leastAfter_76 : RB M_X0_leastAfter 76 (.if_icmp .gt) 106 79 := ⟨30, by decide +kernel, rfl, rfl⟩
theorem r_0_leastAfter_79 : RA M_X0_leastAfter 79 0 80 := Or.inl ⟨0, by decide +kernel, rfl, rfl⟩
theorem r_0_leastAfter_80 : RG M_X0_leastAfter 80 0 2 83 := ⟨20, _, by decide +kernel, rfl, by decide, wd_f0_20, rfl, rfl⟩
theorem r_0_leastAfter_83 : RC M_X0_leastAfter 83 0 84 := ⟨⟨by decide, by decide⟩, Or.inl ⟨by decide +kernel, rfl⟩⟩
theorem r_0_leastAfter_84 : RW M_X0_leastAfter 84 .aaload 85 1 := ⟨by decide +kernel, rfl⟩
theorem r_0_leastAfter_85 : RL M_X0_leastAfter 85 7 87 := Or.inr ⟨by decide +kernel, rfl⟩
theorem r_0_leastAfter_87 : RW M_X0_leastAfter 87 .iaload 88 1 := ⟨by decide +kernel, rfl⟩
theorem r_0_leastAfter_88 : RA M_X0_leastAfter 88 0 89 := Or.inl ⟨0, by decide +kernel, rfl, rfl⟩
theorem r_0_leastAfter_89 : RG M_X0_leastAfter 89 0 2 92 := ⟨20, _, by decide +kernel, rfl, by decide, wd_f0_20, rfl, rfl⟩
theorem r_0_leastAfter_92 : RC M_X0_leastAfter 92 1 93 := ⟨⟨by decide, by decide⟩, Or.inl ⟨by decide +kernel, rfl⟩⟩
theorem r_0_leastAfter_93 : RW M_X0_leastAfter 93 .aaload 94 1 := ⟨by decide +kernel, rfl⟩
theorem r_0_leastAfter_94 : RL M_X0_leastAfter 94 8 96 := Or.inr ⟨by decide +kernel, rfl⟩
theorem r_0_leastAfter_96 : RW M_X0_leastAfter 96 .iaload 97 1 := ⟨by decide +kernel, rfl⟩
theorem r_0_leastAfter_97 : RW M_X0_leastAfter 97 .isub 98 1 := ⟨by decide +kernel, rfl⟩
theorem r_0_leastAfter_98 : RKm M_X0_leastAfter 98 Lib.Math.abs.name 101 := ⟨62, by decide +kernel, wd_m0_62, rfl⟩
theorem r_0_leastAfter_101 : RL M_X0_leastAfter 101 4 103 := Or.inr ⟨by decide +kernel, rfl⟩
theorem r_0_leastAfter_103 : RB M_X0_leastAfter 103 (.if_icmp .le) 109 106 := ⟨6, by decide +kernel, rfl, rfl⟩
theorem r_0_leastAfter_109 : RA M_X0_leastAfter 109 0 110 := Or.inl ⟨0, by decide +kernel, rfl, rfl⟩
theorem r_0_leastAfter_110 : RG M_X0_leastAfter 110 0 5 113 := ⟨29, _, by decide +kernel, rfl, by decide, wd_f0_29, rfl, rfl⟩
theorem r_0_leastAfter_113 : RL M_X0_leastAfter 113 7 115 := Or.inr ⟨by decide +kernel, rfl⟩
theorem r_0_leastAfter_115 : RC M_X0_leastAfter 115 1 116 := ⟨⟨by decide, by decide⟩, Or.inl ⟨by decide +kernel, rfl⟩⟩
theorem r_0_leastAfter_116 : RW M_X0_leastAfter 116 .iand 117 1 := ⟨by decide +kernel, rfl⟩
theorem r_0_leastAfter_117 : RC M_X0_leastAfter 117 91 119 := ⟨⟨by decide, by decide⟩, Or.inr (Or.inl ⟨by decide +kernel, by decide, rfl⟩)⟩
theorem r_0_leastAfter_119 : RW M_X0_leastAfter 119 .imul 120 1 := ⟨by decide +kernel, rfl⟩
theorem r_0_leastAfter_120 : RL M_X0_leastAfter 120 8 122 := Or.inr ⟨by decide +kernel, rfl⟩
theorem r_0_leastAfter_122 : RW M_X0_leastAfter 122 .iadd 123 1 := ⟨by decide +kernel, rfl⟩
theorem r_0_leastAfter_123 : RW M_X0_leastAfter 123 .iaload 124 1 := ⟨by decide +kernel, rfl⟩
theorem r_0_leastAfter_124 : RW M_X0_leastAfter 124 .ireturn 125 1 := ⟨by decide +kernel, rfl⟩
theorem r_0_leastAfter_31 : RA M_X0_leastAfter 31 0 32 := Or.inl ⟨0, by decide +kernel, rfl, rfl⟩
theorem r_0_leastAfter_32 : RG M_X0_leastAfter 32 0 3 35 := ⟨23, _, by decide +kernel, rfl, by decide, wd_f0_23, rfl, rfl⟩
theorem r_0_leastAfter_35 : RC M_X0_leastAfter 35 1 36 := ⟨⟨by decide, by decide⟩, Or.inl ⟨by decide +kernel, rfl⟩⟩
theorem r_0_leastAfter_36 : RW M_X0_leastAfter 36 .aaload 37 1 := ⟨by decide +kernel, rfl⟩
theorem r_0_leastAfter_37 : RL M_X0_leastAfter 37 2 38 := Or.inl ⟨2, by decide +kernel, rfl, rfl⟩
theorem r_0_leastAfter_38 : RW M_X0_leastAfter 38 .iaload 39 1 := ⟨by decide +kernel, rfl⟩
theorem r_0_leastAfter_39 : RB M_X0_leastAfter 39 (.ifCond .ne) 45 42 := ⟨6, by decide +kernel, rfl, rfl⟩
theorem r_0_leastAfter_42 : RC M_X0_leastAfter 42 1000000000 44 := ⟨⟨by decide, by decide⟩, Or.inr (Or.inr (Or.inr (Or.inl ⟨50, by decide +kernel, wd_c0_50, rfl⟩)))⟩
theorem r_0_leastAfter_44 : RW M_X0_leastAfter 44 .ireturn 45 1 := ⟨by decide +kernel, rfl⟩
theorem r_0_leastAfter_15 : RA M_X0_leastAfter 15 0 16 := Or.inl ⟨0, by decide +kernel, rfl, rfl⟩
theorem r_0_leastAfter_16 : RG M_X0_leastAfter 16 0 3 19 := ⟨23, _, by decide +kernel, rfl, by decide, wd_f0_23, rfl, rfl⟩
theorem r_0_leastAfter_19 : RC M_X0_leastAfter 19 0 20 := ⟨⟨by decide, by decide⟩, Or.inl ⟨by decide +kernel, rfl⟩⟩
theorem r_0_leastAfter_20 : RW M_X0_leastAfter 20 .aaload 21 1 := ⟨by decide +kernel, rfl⟩
theorem r_0_leastAfter_21 : RL M_X0_leastAfter 21 1 22 := Or.inl ⟨1, by decide +kernel, rfl, rfl⟩
theorem r_0_leastAfter_22 : RW M_X0_leastAfter 22 .iaload 23 1 := ⟨by decide +kernel, rfl⟩
theorem r_0_leastAfter_23 : RB M_X0_leastAfter 23 (.ifCond .eq) 42 26 := ⟨19, by decide +kernel, rfl, rfl⟩
set_option maxRecDepth 10000 in
theorem sp_X12_behind {l : Launch} {w : Wo} {d : Nat} {G : PH} {P : Option PV → PH → Prop} {s c a x b y x1 a1 y1 b1 : Int} (hwk : (0 ≤ (gA G 257 0 (0)) ∧ (gA G 257 0 (0)) ≤ 10) ∧ 0 ≤ (gA G 257 0 (1)) ∧ (gA G 257 0 (1)) ≤ 10) (hw0 : ∀ i, 0 ≤ i → i < (gA G 257 0 (0)) → 1 ≤ (gA G 256 0 (i)) ∧ (gA G 256 0 (i)) ≤ 9) (hw1 : ∀ i, 0 ≤ i → i < (gA G 257 0 (1)) → 1 ≤ (gA G 256 0 (10 + i)) ∧ (gA G 256 0 (10 + i)) ≤ 9) (hah : 1 ≤ (gF G 12 0 85) ∧ (gF G 12 0 85) ≤ 3) (hs : s = 1100 * a + 110 * x + 10 * b + y) (ha : (0 ≤ a ∧ a ≤ (gA G 257 0 (0))) ∧ (0 ≤ b ∧ b ≤ (gA G 257 0 (1))) ∧ (0 ≤ x ∧ x ≤ 9) ∧ 0 ≤ y ∧ y ≤ 9) (hcc : 0 ≤ c ∧ c < 4) (hx1 : (c % 2 = 1 ∧ x1 = (gA G 256 0 (a)) ∧ a1 = a + 1) ∨ (c % 2 = 0 ∧ x1 = x ∧ a1 = a)) (hy1 : (2 ≤ c ∧ y1 = (gA G 256 0 (10 + b)) ∧ b1 = b + 1) ∨ (c < 2 ∧ y1 = y ∧ b1 = b)) (h1 : ¬ ((c % 2 = 1 → x = 0 ∧ a < (gA G 257 0 (0))) ∧ (2 ≤ c → y = 0 ∧ b < (gA G 257 0 (1))) ∧ ¬ (x1 = 0 ∧ y1 = 0) ∧ -(gF G 12 0 85) ≤ a1 - ps (tk x1) - b1 + ps (tk y1) ∧ a1 - ps (tk x1) - b1 + ps (tk y1) ≤ (gF G 12 0 85)) → P (some (vI (-1))) G) (h2 : ((c % 2 = 1 → x = 0 ∧ a < (gA G 257 0 (0))) ∧ (2 ≤ c → y = 0 ∧ b < (gA G 257 0 (1))) ∧ ¬ (x1 = 0 ∧ y1 = 0) ∧ -(gF G 12 0 85) ≤ a1 - ps (tk x1) - b1 + ps (tk y1) ∧ a1 - ps (tk x1) - b1 + ps (tk y1) ≤ (gF G 12 0 85)) → P (some (vI (1100 * a1 + 110 * tk x1 + 10 * b1 + tk y1))) G) : PW l w M_X12_behind (d + 2) 0 [some (vR 12 (0)), some (vI (s)), some (vI (c)), none, none, none, none, none] [] G P := by
  have k1 := pAnd_1 c
  have k2 := and_2 hcc
  have hp1 := ps_in (x := tk x1)
  have hp2 := ps_in (x := tk y1)
  have hs0 : 0 ≤ s ∧ s < 12100 := by omega
  have d1 : s / 1100 = a := by omega
  have d2 : s / 110 % 10 = x := by omega
  have d3 : s / 10 % 11 = b := by omega
  have d4 : s % 10 = y := by omega
  clear hs
  refine pw_iload r_12_behind_0 rfl ?_
  refine pw_const r_12_behind_1 ?_
  refine pw_idivN r_12_behind_4 (by omega) (by omega) (by omega) ?_
  refine pw_top (b := a) (d1) ?_
  refine pw_istore (ls' := [some (vR 12 (0)), some (vI (s)), some (vI (c)), some (vI (a)), none, none, none, none]) r_12_behind_5 rfl rfl ?_
  refine pw_iload r_12_behind_6 rfl ?_
  refine pw_const r_12_behind_7 ?_
  refine pw_idivN r_12_behind_9 (by omega) (by omega) (by omega) ?_
  refine pw_const r_12_behind_10 ?_
  refine pw_iremN r_12_behind_12 (by omega) (by omega) ?_
  refine pw_top (b := x) (d2) ?_
  refine pw_istore (ls' := [some (vR 12 (0)), some (vI (s)), some (vI (c)), some (vI (a)), some (vI (x)), none, none, none]) r_12_behind_13 rfl rfl ?_
  refine pw_iload r_12_behind_15 rfl ?_
  refine pw_const r_12_behind_16 ?_
  refine pw_idivN r_12_behind_18 (by omega) (by omega) (by omega) ?_
  refine pw_const r_12_behind_19 ?_
  refine pw_iremN r_12_behind_21 (by omega) (by omega) ?_
  refine pw_top (b := b) (d3) ?_
  refine pw_istore (ls' := [some (vR 12 (0)), some (vI (s)), some (vI (c)), some (vI (a)), some (vI (x)), some (vI (b)), none, none]) r_12_behind_22 rfl rfl ?_
  refine pw_iload r_12_behind_24 rfl ?_
  refine pw_const r_12_behind_25 ?_
  refine pw_iremN r_12_behind_27 (by omega) (by omega) ?_
  refine pw_top (b := y) (d4) ?_
  refine pw_istore (ls' := [some (vR 12 (0)), some (vI (s)), some (vI (c)), some (vI (a)), some (vI (x)), some (vI (b)), some (vI (y)), none]) r_12_behind_28 rfl rfl ?_
  have L64 : ∀ (u3 u4 : Int), (q0 : (u3 = a1 ∧ u4 = x1) ∧ (c % 2 = 1 → x = 0 ∧ a < (gA G 257 0 (0))) ∧ 0 ≤ u3 ∧ u3 ≤ 10 ∧ 0 ≤ u4 ∧ u4 ≤ 9) → PW l w M_X12_behind (d + 2) 64 [some (vR 12 (0)), some (vI (s)), some (vI (c)), some (vI (u3)), some (vI (u4)), some (vI (b)), some (vI (y)), none] [] G P := by
    intro u3 u4 q0
    refine pw_iload r_12_behind_64 rfl ?_
    have L103 : ∀ (u5 u6 : Int), (q1 : (u5 = b1 ∧ u6 = y1) ∧ (2 ≤ c → y = 0 ∧ b < (gA G 257 0 (1))) ∧ 0 ≤ u5 ∧ u5 ≤ 10 ∧ 0 ≤ u6 ∧ u6 ≤ 9) → PW l w M_X12_behind (d + 2) 103 [some (vR 12 (0)), some (vI (s)), some (vI (c)), some (vI (u3)), some (vI (u4)), some (vI (u5)), some (vI (u6)), none] [] G P := by
      intro u5 u6 q1
      clear hw0 hw1 d1 d2 d3 d4 hx1 hy1 k1 k2 hs0
      have ht1 : 0 ≤ tk x1 ∧ tk x1 ≤ 9 := tk_in (by omega)
      have ht2 : 0 ≤ tk y1 ∧ tk y1 ≤ 9 := tk_in (by omega)
      refine pw_iload r_12_behind_103 rfl ?_
      refine pw_if_ne r_12_behind_105 (fun h105 => ?_) (fun h105 => ?_)
      · skip
        have L128 : ∀ (u7 : Int), (q2 : u7 = tk x1) → PW l w M_X12_behind (d + 2) 128 [some (vR 12 (0)), some (vI (s)), some (vI (c)), some (vI (u3)), some (vI (u4)), some (vI (u5)), some (vI (u6)), none] [vI (u7)] G P := by
          intro u7 q2
          refine pw_istore (ls' := [some (vR 12 (0)), some (vI (s)), some (vI (c)), some (vI (u3)), some (vI (u7)), some (vI (u5)), some (vI (u6)), none]) r_12_behind_128 rfl rfl ?_
          have L143 : ∀ (u8 : Int), (q3 : u8 = tk y1) → PW l w M_X12_behind (d + 2) 143 [some (vR 12 (0)), some (vI (s)), some (vI (c)), some (vI (u3)), some (vI (u7)), some (vI (u5)), some (vI (u6)), none] [vI (u8)] G P := by
            intro u8 q3
            refine pw_istore (ls' := [some (vR 12 (0)), some (vI (s)), some (vI (c)), some (vI (u3)), some (vI (u7)), some (vI (u5)), some (vI (u8)), none]) r_12_behind_143 rfl rfl ?_
            have L156 : ∀ (u9 : Int), (q4 : u9 = ps (tk x1)) → PW l w M_X12_behind (d + 2) 156 [some (vR 12 (0)), some (vI (s)), some (vI (c)), some (vI (u3)), some (vI (u7)), some (vI (u5)), some (vI (u8)), none] [vI (u9), vI (u3)] G P := by
              intro u9 q4
              refine pw_isub r_12_behind_156 (by omega) ?_
              refine pw_iload r_12_behind_157 rfl ?_
              refine pw_isub r_12_behind_159 (by omega) ?_
              refine pw_iload r_12_behind_160 rfl ?_
              refine pw_if_le r_12_behind_162 (fun h162 => ?_) (fun h162 => ?_)
              · skip
                refine pw_const r_12_behind_169 ?_
                refine pw_top (b := ps (tk y1)) (by rw [← q3]; unfold ps; first | exact (if_pos (by omega)).symm | exact (if_neg (by omega)).symm) ?_
                refine pw_iadd r_12_behind_170 (by omega) ?_
                refine pw_istore (ls' := [some (vR 12 (0)), some (vI (s)), some (vI (c)), some (vI (u3)), some (vI (u7)), some (vI (u5)), some (vI (u8)), some (vI ((((u3 - u9) - u5) + (ps (tk y1)))))]) r_12_behind_171 rfl rfl ?_
                refine pw_iload r_12_behind_173 rfl ?_
                refine pw_aload r_12_behind_175 rfl ?_
                refine pw_getI r_12_behind_176 fs_12_85 (by decide) ?_
                refine pw_inegW r_12_behind_179 ?_
                refine pw_top (b := -(gF G 12 0 85)) (wr_id (by omega)) ?_
                refine pw_aload r_12_behind_180 rfl ?_
                refine pw_getI r_12_behind_181 fs_12_85 (by decide) ?_
                refine pw_callS (av := [vI ((((u3 - u9) - u5) + (ps (tk y1)))), vI (-(gF G 12 0 85)), vI (gF G 12 (0) 85)]) (st := []) (ls0 := [some (vI ((((u3 - u9) - u5) + (ps (tk y1))))), some (vI (-(gF G 12 0 85))), some (vI (gF G 12 (0) 85))]) r_12_behind_184 rfl rfl rfl (Nat.le_refl _) ?_
                refine sp_X12_within  ?_
                refine pw_if_eqB r_12_behind_187 (fun h187 => ?_) (fun h187 => ?_)
                · skip
                  refine pw_const r_12_behind_213 ?_
                  refine pw_iret r_12_behind_214 rfl (Nat.le_refl _) ⟨rfl, ?_⟩
                  first | exact h1 (fun q => by omega) | exact pe (h2 (by omega)) (by omega)
                · skip
                  refine pw_iload r_12_behind_190 rfl ?_
                  refine pw_const r_12_behind_191 ?_
                  refine pw_imul r_12_behind_194 (by omega) ?_
                  refine pw_iload r_12_behind_195 rfl ?_
                  refine pw_const r_12_behind_197 ?_
                  refine pw_imul r_12_behind_199 (by omega) ?_
                  refine pw_iadd r_12_behind_200 (by omega) ?_
                  refine pw_iload r_12_behind_201 rfl ?_
                  refine pw_const r_12_behind_203 ?_
                  refine pw_imul r_12_behind_205 (by omega) ?_
                  refine pw_iadd r_12_behind_206 (by omega) ?_
                  refine pw_iload r_12_behind_207 rfl ?_
                  refine pw_iadd r_12_behind_209 (by omega) ?_
                  refine pw_goto r_12_behind_210 ?_
                  refine pw_iret r_12_behind_214 rfl (Nat.le_refl _) ⟨rfl, ?_⟩
                  first | exact h1 (fun q => by omega) | exact pe (h2 (by omega)) (by omega)
              · skip
                refine pw_const r_12_behind_165 ?_
                refine pw_goto r_12_behind_166 ?_
                refine pw_top (b := ps (tk y1)) (by rw [← q3]; unfold ps; first | exact (if_pos (by omega)).symm | exact (if_neg (by omega)).symm) ?_
                refine pw_iadd r_12_behind_170 (by omega) ?_
                refine pw_istore (ls' := [some (vR 12 (0)), some (vI (s)), some (vI (c)), some (vI (u3)), some (vI (u7)), some (vI (u5)), some (vI (u8)), some (vI ((((u3 - u9) - u5) + (ps (tk y1)))))]) r_12_behind_171 rfl rfl ?_
                refine pw_iload r_12_behind_173 rfl ?_
                refine pw_aload r_12_behind_175 rfl ?_
                refine pw_getI r_12_behind_176 fs_12_85 (by decide) ?_
                refine pw_inegW r_12_behind_179 ?_
                refine pw_top (b := -(gF G 12 0 85)) (wr_id (by omega)) ?_
                refine pw_aload r_12_behind_180 rfl ?_
                refine pw_getI r_12_behind_181 fs_12_85 (by decide) ?_
                refine pw_callS (av := [vI ((((u3 - u9) - u5) + (ps (tk y1)))), vI (-(gF G 12 0 85)), vI (gF G 12 (0) 85)]) (st := []) (ls0 := [some (vI ((((u3 - u9) - u5) + (ps (tk y1))))), some (vI (-(gF G 12 0 85))), some (vI (gF G 12 (0) 85))]) r_12_behind_184 rfl rfl rfl (Nat.le_refl _) ?_
                refine sp_X12_within  ?_
                refine pw_if_eqB r_12_behind_187 (fun h187 => ?_) (fun h187 => ?_)
                · skip
                  refine pw_const r_12_behind_213 ?_
                  refine pw_iret r_12_behind_214 rfl (Nat.le_refl _) ⟨rfl, ?_⟩
                  first | exact h1 (fun q => by omega) | exact pe (h2 (by omega)) (by omega)
                · skip
                  refine pw_iload r_12_behind_190 rfl ?_
                  refine pw_const r_12_behind_191 ?_
                  refine pw_imul r_12_behind_194 (by omega) ?_
                  refine pw_iload r_12_behind_195 rfl ?_
                  refine pw_const r_12_behind_197 ?_
                  refine pw_imul r_12_behind_199 (by omega) ?_
                  refine pw_iadd r_12_behind_200 (by omega) ?_
                  refine pw_iload r_12_behind_201 rfl ?_
                  refine pw_const r_12_behind_203 ?_
                  refine pw_imul r_12_behind_205 (by omega) ?_
                  refine pw_iadd r_12_behind_206 (by omega) ?_
                  refine pw_iload r_12_behind_207 rfl ?_
                  refine pw_iadd r_12_behind_209 (by omega) ?_
                  refine pw_goto r_12_behind_210 ?_
                  refine pw_iret r_12_behind_214 rfl (Nat.le_refl _) ⟨rfl, ?_⟩
                  first | exact h1 (fun q => by omega) | exact pe (h2 (by omega)) (by omega)
            refine pw_iload r_12_behind_145 rfl ?_
            refine pw_iload r_12_behind_146 rfl ?_
            refine pw_if_le r_12_behind_148 (fun h148 => ?_) (fun h148 => ?_)
            · skip
              refine pw_const r_12_behind_155 ?_
              exact L156 (0) (by rw [← q2]; unfold ps; first | exact (if_pos (by omega)).symm | exact (if_neg (by omega)).symm) 
            · skip
              refine pw_const r_12_behind_151 ?_
              refine pw_goto r_12_behind_152 ?_
              exact L156 (1) (by rw [← q2]; unfold ps; first | exact (if_pos (by omega)).symm | exact (if_neg (by omega)).symm) 
          refine pw_iload r_12_behind_130 rfl ?_
          refine pw_if_le r_12_behind_132 (fun h132 => ?_) (fun h132 => ?_)
          · skip
            refine pw_const r_12_behind_142 ?_
            exact L143 (0) (by rw [← q1.1.2]; unfold tk; first | exact (if_pos (by omega)).symm | exact (if_neg (by omega)).symm) 
          · skip
            refine pw_iload r_12_behind_135 rfl ?_
            refine pw_const r_12_behind_137 ?_
            refine pw_isub r_12_behind_138 (by omega) ?_
            refine pw_goto r_12_behind_139 ?_
            exact L143 ((u6 - 1)) (by rw [← q1.1.2]; unfold tk; first | exact (if_pos (by omega)).symm | exact (if_neg (by omega)).symm) 
        refine pw_iload r_12_behind_115 rfl ?_
        refine pw_if_le r_12_behind_117 (fun h117 => ?_) (fun h117 => ?_)
        · skip
          refine pw_const r_12_behind_127 ?_
          exact L128 (0) (by rw [← q0.1.2]; unfold tk; first | exact (if_pos (by omega)).symm | exact (if_neg (by omega)).symm) 
        · skip
          refine pw_iload r_12_behind_120 rfl ?_
          refine pw_const r_12_behind_122 ?_
          refine pw_isub r_12_behind_123 (by omega) ?_
          refine pw_goto r_12_behind_124 ?_
          exact L128 ((u4 - 1)) (by rw [← q0.1.2]; unfold tk; first | exact (if_pos (by omega)).symm | exact (if_neg (by omega)).symm) 
      · skip
        refine pw_iload r_12_behind_108 rfl ?_
        refine pw_if_ne r_12_behind_110 (fun h110 => ?_) (fun h110 => ?_)
        · skip
          have L128 : ∀ (u7 : Int), (q2 : u7 = tk x1) → PW l w M_X12_behind (d + 2) 128 [some (vR 12 (0)), some (vI (s)), some (vI (c)), some (vI (u3)), some (vI (u4)), some (vI (u5)), some (vI (u6)), none] [vI (u7)] G P := by
            intro u7 q2
            refine pw_istore (ls' := [some (vR 12 (0)), some (vI (s)), some (vI (c)), some (vI (u3)), some (vI (u7)), some (vI (u5)), some (vI (u6)), none]) r_12_behind_128 rfl rfl ?_
            have L143 : ∀ (u8 : Int), (q3 : u8 = tk y1) → PW l w M_X12_behind (d + 2) 143 [some (vR 12 (0)), some (vI (s)), some (vI (c)), some (vI (u3)), some (vI (u7)), some (vI (u5)), some (vI (u6)), none] [vI (u8)] G P := by
              intro u8 q3
              refine pw_istore (ls' := [some (vR 12 (0)), some (vI (s)), some (vI (c)), some (vI (u3)), some (vI (u7)), some (vI (u5)), some (vI (u8)), none]) r_12_behind_143 rfl rfl ?_
              have L156 : ∀ (u9 : Int), (q4 : u9 = ps (tk x1)) → PW l w M_X12_behind (d + 2) 156 [some (vR 12 (0)), some (vI (s)), some (vI (c)), some (vI (u3)), some (vI (u7)), some (vI (u5)), some (vI (u8)), none] [vI (u9), vI (u3)] G P := by
                intro u9 q4
                refine pw_isub r_12_behind_156 (by omega) ?_
                refine pw_iload r_12_behind_157 rfl ?_
                refine pw_isub r_12_behind_159 (by omega) ?_
                refine pw_iload r_12_behind_160 rfl ?_
                refine pw_if_le r_12_behind_162 (fun h162 => ?_) (fun h162 => ?_)
                · skip
                  refine pw_const r_12_behind_169 ?_
                  refine pw_top (b := ps (tk y1)) (by rw [← q3]; unfold ps; first | exact (if_pos (by omega)).symm | exact (if_neg (by omega)).symm) ?_
                  refine pw_iadd r_12_behind_170 (by omega) ?_
                  refine pw_istore (ls' := [some (vR 12 (0)), some (vI (s)), some (vI (c)), some (vI (u3)), some (vI (u7)), some (vI (u5)), some (vI (u8)), some (vI ((((u3 - u9) - u5) + (ps (tk y1)))))]) r_12_behind_171 rfl rfl ?_
                  refine pw_iload r_12_behind_173 rfl ?_
                  refine pw_aload r_12_behind_175 rfl ?_
                  refine pw_getI r_12_behind_176 fs_12_85 (by decide) ?_
                  refine pw_inegW r_12_behind_179 ?_
                  refine pw_top (b := -(gF G 12 0 85)) (wr_id (by omega)) ?_
                  refine pw_aload r_12_behind_180 rfl ?_
                  refine pw_getI r_12_behind_181 fs_12_85 (by decide) ?_
                  refine pw_callS (av := [vI ((((u3 - u9) - u5) + (ps (tk y1)))), vI (-(gF G 12 0 85)), vI (gF G 12 (0) 85)]) (st := []) (ls0 := [some (vI ((((u3 - u9) - u5) + (ps (tk y1))))), some (vI (-(gF G 12 0 85))), some (vI (gF G 12 (0) 85))]) r_12_behind_184 rfl rfl rfl (Nat.le_refl _) ?_
                  refine sp_X12_within  ?_
                  refine pw_if_eqB r_12_behind_187 (fun h187 => ?_) (fun h187 => ?_)
                  · skip
                    refine pw_const r_12_behind_213 ?_
                    refine pw_iret r_12_behind_214 rfl (Nat.le_refl _) ⟨rfl, ?_⟩
                    first | exact h1 (fun q => by omega) | exact pe (h2 (by omega)) (by omega)
                  · skip
                    refine pw_iload r_12_behind_190 rfl ?_
                    refine pw_const r_12_behind_191 ?_
                    refine pw_imul r_12_behind_194 (by omega) ?_
                    refine pw_iload r_12_behind_195 rfl ?_
                    refine pw_const r_12_behind_197 ?_
                    refine pw_imul r_12_behind_199 (by omega) ?_
                    refine pw_iadd r_12_behind_200 (by omega) ?_
                    refine pw_iload r_12_behind_201 rfl ?_
                    refine pw_const r_12_behind_203 ?_
                    refine pw_imul r_12_behind_205 (by omega) ?_
                    refine pw_iadd r_12_behind_206 (by omega) ?_
                    refine pw_iload r_12_behind_207 rfl ?_
                    refine pw_iadd r_12_behind_209 (by omega) ?_
                    refine pw_goto r_12_behind_210 ?_
                    refine pw_iret r_12_behind_214 rfl (Nat.le_refl _) ⟨rfl, ?_⟩
                    first | exact h1 (fun q => by omega) | exact pe (h2 (by omega)) (by omega)
                · skip
                  refine pw_const r_12_behind_165 ?_
                  refine pw_goto r_12_behind_166 ?_
                  refine pw_top (b := ps (tk y1)) (by rw [← q3]; unfold ps; first | exact (if_pos (by omega)).symm | exact (if_neg (by omega)).symm) ?_
                  refine pw_iadd r_12_behind_170 (by omega) ?_
                  refine pw_istore (ls' := [some (vR 12 (0)), some (vI (s)), some (vI (c)), some (vI (u3)), some (vI (u7)), some (vI (u5)), some (vI (u8)), some (vI ((((u3 - u9) - u5) + (ps (tk y1)))))]) r_12_behind_171 rfl rfl ?_
                  refine pw_iload r_12_behind_173 rfl ?_
                  refine pw_aload r_12_behind_175 rfl ?_
                  refine pw_getI r_12_behind_176 fs_12_85 (by decide) ?_
                  refine pw_inegW r_12_behind_179 ?_
                  refine pw_top (b := -(gF G 12 0 85)) (wr_id (by omega)) ?_
                  refine pw_aload r_12_behind_180 rfl ?_
                  refine pw_getI r_12_behind_181 fs_12_85 (by decide) ?_
                  refine pw_callS (av := [vI ((((u3 - u9) - u5) + (ps (tk y1)))), vI (-(gF G 12 0 85)), vI (gF G 12 (0) 85)]) (st := []) (ls0 := [some (vI ((((u3 - u9) - u5) + (ps (tk y1))))), some (vI (-(gF G 12 0 85))), some (vI (gF G 12 (0) 85))]) r_12_behind_184 rfl rfl rfl (Nat.le_refl _) ?_
                  refine sp_X12_within  ?_
                  refine pw_if_eqB r_12_behind_187 (fun h187 => ?_) (fun h187 => ?_)
                  · skip
                    refine pw_const r_12_behind_213 ?_
                    refine pw_iret r_12_behind_214 rfl (Nat.le_refl _) ⟨rfl, ?_⟩
                    first | exact h1 (fun q => by omega) | exact pe (h2 (by omega)) (by omega)
                  · skip
                    refine pw_iload r_12_behind_190 rfl ?_
                    refine pw_const r_12_behind_191 ?_
                    refine pw_imul r_12_behind_194 (by omega) ?_
                    refine pw_iload r_12_behind_195 rfl ?_
                    refine pw_const r_12_behind_197 ?_
                    refine pw_imul r_12_behind_199 (by omega) ?_
                    refine pw_iadd r_12_behind_200 (by omega) ?_
                    refine pw_iload r_12_behind_201 rfl ?_
                    refine pw_const r_12_behind_203 ?_
                    refine pw_imul r_12_behind_205 (by omega) ?_
                    refine pw_iadd r_12_behind_206 (by omega) ?_
                    refine pw_iload r_12_behind_207 rfl ?_
                    refine pw_iadd r_12_behind_209 (by omega) ?_
                    refine pw_goto r_12_behind_210 ?_
                    refine pw_iret r_12_behind_214 rfl (Nat.le_refl _) ⟨rfl, ?_⟩
                    first | exact h1 (fun q => by omega) | exact pe (h2 (by omega)) (by omega)
              refine pw_iload r_12_behind_145 rfl ?_
              refine pw_iload r_12_behind_146 rfl ?_
              refine pw_if_le r_12_behind_148 (fun h148 => ?_) (fun h148 => ?_)
              · skip
                refine pw_const r_12_behind_155 ?_
                exact L156 (0) (by rw [← q2]; unfold ps; first | exact (if_pos (by omega)).symm | exact (if_neg (by omega)).symm) 
              · skip
                refine pw_const r_12_behind_151 ?_
                refine pw_goto r_12_behind_152 ?_
                exact L156 (1) (by rw [← q2]; unfold ps; first | exact (if_pos (by omega)).symm | exact (if_neg (by omega)).symm) 
            refine pw_iload r_12_behind_130 rfl ?_
            refine pw_if_le r_12_behind_132 (fun h132 => ?_) (fun h132 => ?_)
            · skip
              refine pw_const r_12_behind_142 ?_
              exact L143 (0) (by rw [← q1.1.2]; unfold tk; first | exact (if_pos (by omega)).symm | exact (if_neg (by omega)).symm) 
            · skip
              refine pw_iload r_12_behind_135 rfl ?_
              refine pw_const r_12_behind_137 ?_
              refine pw_isub r_12_behind_138 (by omega) ?_
              refine pw_goto r_12_behind_139 ?_
              exact L143 ((u6 - 1)) (by rw [← q1.1.2]; unfold tk; first | exact (if_pos (by omega)).symm | exact (if_neg (by omega)).symm) 
          refine pw_iload r_12_behind_115 rfl ?_
          refine pw_if_le r_12_behind_117 (fun h117 => ?_) (fun h117 => ?_)
          · skip
            refine pw_const r_12_behind_127 ?_
            exact L128 (0) (by rw [← q0.1.2]; unfold tk; first | exact (if_pos (by omega)).symm | exact (if_neg (by omega)).symm) 
          · skip
            refine pw_iload r_12_behind_120 rfl ?_
            refine pw_const r_12_behind_122 ?_
            refine pw_isub r_12_behind_123 (by omega) ?_
            refine pw_goto r_12_behind_124 ?_
            exact L128 ((u4 - 1)) (by rw [← q0.1.2]; unfold tk; first | exact (if_pos (by omega)).symm | exact (if_neg (by omega)).symm) 
        · skip
          refine pw_const r_12_behind_113 ?_
          refine pw_iret r_12_behind_114 rfl (Nat.le_refl _) ⟨rfl, ?_⟩
          first | exact h1 (fun q => by omega) | exact pe (h2 (by omega)) (by omega)
    refine pw_const r_12_behind_65 ?_
    refine pw_iand r_12_behind_66 ?_
    refine pw_if_eq r_12_behind_67 (fun h67 => ?_) (fun h67 => ?_)
    · skip
      exact L103 (b) (y) (by first | assumption | omega) 
    · skip
      refine pw_iload r_12_behind_70 rfl ?_
      refine pw_if_gt r_12_behind_72 (fun h72 => ?_) (fun h72 => ?_)
      · skip
        refine pw_const r_12_behind_86 ?_
        refine pw_iret r_12_behind_87 rfl (Nat.le_refl _) ⟨rfl, ?_⟩
        first | exact h1 (fun q => by omega) | exact pe (h2 (by omega)) (by omega)
      · skip
        refine pw_iload r_12_behind_75 rfl ?_
        refine pw_aload r_12_behind_77 rfl ?_
        refine pw_getR r_12_behind_78 fs_12_83 (by decide) ?_
        refine pw_const r_12_behind_81 ?_
        refine pw_iald r_12_behind_82 sh257 (by omega) (by omega) ?_
        refine pw_icmp_ne r_12_behind_83 (fun h83 => ?_) (fun h83 => ?_)
        · skip
          have hq1 := hw1 b (by omega) (by omega)
          refine pw_aload r_12_behind_88 rfl ?_
          refine pw_getR r_12_behind_89 fs_12_82 (by decide) ?_
          refine pw_const r_12_behind_92 ?_
          refine pw_iload r_12_behind_94 rfl ?_
          refine pw_iadd r_12_behind_96 (by omega) ?_
          refine pw_iald r_12_behind_97 sh256 (by omega) (by omega) ?_
          refine pw_istore (ls' := [some (vR 12 (0)), some (vI (s)), some (vI (c)), some (vI (u3)), some (vI (u4)), some (vI (b)), some (vI (gA G 256 (0) ((10 + b)))), none]) r_12_behind_98 rfl rfl ?_
          refine pw_iinc (b := 0) (ls' := [some (vR 12 (0)), some (vI (s)), some (vI (c)), some (vI (u3)), some (vI (u4)), some (vI ((b + 1))), some (vI (gA G 256 (0) ((10 + b)))), none]) r_12_behind_100 rfl rfl (by omega) rfl ?_
          exact L103 ((b + 1)) (gA G 256 (0) ((10 + b))) (by first | assumption | omega) 
        · skip
          refine pw_const r_12_behind_86 ?_
          refine pw_iret r_12_behind_87 rfl (Nat.le_refl _) ⟨rfl, ?_⟩
          first | exact h1 (fun q => by omega) | exact pe (h2 (by omega)) (by omega)
  refine pw_iload r_12_behind_30 rfl ?_
  refine pw_const r_12_behind_31 ?_
  refine pw_iand r_12_behind_32 ?_
  refine pw_if_eq r_12_behind_33 (fun h33 => ?_) (fun h33 => ?_)
  · skip
    exact L64 (a) (x) (by first | assumption | omega) 
  · skip
    refine pw_iload r_12_behind_36 rfl ?_
    refine pw_if_gt r_12_behind_38 (fun h38 => ?_) (fun h38 => ?_)
    · skip
      refine pw_const r_12_behind_51 ?_
      refine pw_iret r_12_behind_52 rfl (Nat.le_refl _) ⟨rfl, ?_⟩
      first | exact h1 (fun q => by omega) | exact pe (h2 (by omega)) (by omega)
    · skip
      refine pw_iload r_12_behind_41 rfl ?_
      refine pw_aload r_12_behind_42 rfl ?_
      refine pw_getR r_12_behind_43 fs_12_83 (by decide) ?_
      refine pw_const r_12_behind_46 ?_
      refine pw_iald r_12_behind_47 sh257 (by omega) (by omega) ?_
      refine pw_icmp_ne r_12_behind_48 (fun h48 => ?_) (fun h48 => ?_)
      · skip
        have hq0 := hw0 a (by omega) (by omega)
        refine pw_aload r_12_behind_53 rfl ?_
        refine pw_getR r_12_behind_54 fs_12_82 (by decide) ?_
        refine pw_iload r_12_behind_57 rfl ?_
        refine pw_iald r_12_behind_58 sh256 (by omega) (by omega) ?_
        refine pw_istore (ls' := [some (vR 12 (0)), some (vI (s)), some (vI (c)), some (vI (a)), some (vI (gA G 256 (0) (a))), some (vI (b)), some (vI (y)), none]) r_12_behind_59 rfl rfl ?_
        refine pw_iinc (b := 0) (ls' := [some (vR 12 (0)), some (vI (s)), some (vI (c)), some (vI ((a + 1))), some (vI (gA G 256 (0) (a))), some (vI (b)), some (vI (y)), none]) r_12_behind_61 rfl rfl (by omega) rfl ?_
        exact L64 ((a + 1)) (gA G 256 (0) (a)) (by first | assumption | omega) 
      · skip
        refine pw_const r_12_behind_51 ?_
        refine pw_iret r_12_behind_52 rfl (Nat.le_refl _) ⟨rfl, ?_⟩
        first | exact h1 (fun q => by omega) | exact pe (h2 (by omega)) (by omega)
set_option maxRecDepth 10000 in
theorem sp_X12_choiceOf {l : Launch} {w : Wo} {d : Nat} {G : PH} {P : Option PV → PH → Prop} {i : Int} (hP : ∀ r, (i = 0 ∧ r = 3) ∨ (i = 3 ∧ r = 0) ∨ ((i ≠ 0 ∧ i ≠ 3) ∧ r = i) → P (some (vI r)) G) : PW l w M_X12_choiceOf (d + 0) 0 [some (vI (i))] [] G P := by
  refine pw_iload r_12_choiceOf_0 rfl ?_
  refine pw_if_ne r_12_choiceOf_1 (fun h01 => ?_) (fun h01 => ?_)
  · skip
    refine pw_iload r_12_choiceOf_8 rfl ?_
    refine pw_const r_12_choiceOf_9 ?_
    refine pw_icmp_ne r_12_choiceOf_10 (fun h10 => ?_) (fun h10 => ?_)
    · skip
      refine pw_iload r_12_choiceOf_17 rfl ?_
      refine pw_iret r_12_choiceOf_18 rfl (Nat.le_refl _) ⟨rfl, ?_⟩
      exact hP _ (by omega)
    · skip
      refine pw_const r_12_choiceOf_13 ?_
      refine pw_goto r_12_choiceOf_14 ?_
      refine pw_iret r_12_choiceOf_18 rfl (Nat.le_refl _) ⟨rfl, ?_⟩
      exact hP _ (by omega)
  · skip
    refine pw_const r_12_choiceOf_4 ?_
    refine pw_goto r_12_choiceOf_5 ?_
    refine pw_iret r_12_choiceOf_18 rfl (Nat.le_refl _) ⟨rfl, ?_⟩
    exact hP _ (by omega)
set_option maxRecDepth 10000 in
theorem sp_X0_leastAfter {l : Launch} {w : Wo} {d : Nat} {G : PH} {P : Option PV → PH → Prop} {a b u h sa sb : Int} (htt : (0 ≤ (gA G 27 0 (0)) ∧ (gA G 27 0 (0)) ≤ 90) ∧ 0 ≤ (gA G 27 0 (1)) ∧ (gA G 27 0 (1)) ≤ 90) (hov : ∀ r p, 0 ≤ r → r < 2 → 0 ≤ p → p ≤ (gA G 27 0 (r)) → 0 ≤ (gA G 24 (r) (p)) ∧ (gA G 24 (r) (p)) ≤ 10) (ha : (0 ≤ a ∧ a ≤ (gA G 27 0 (0))) ∧ 0 ≤ b ∧ b ≤ (gA G 27 0 (1))) (hh : 1 ≤ h ∧ h ≤ 3) (hu : (u = 3 ∧ sa = 1 ∧ sb = 1) ∨ (u = 1 ∧ sa = 1 ∧ sb = 0) ∨ (u = 2 ∧ sa = 0 ∧ sb = 1)) (h1 : ¬ ((sa = 0 → (gA G 26 0 (a)) ≠ 0) ∧ (sb = 0 → (gA G 26 (1) (b)) ≠ 0) ∧ a + sa ≤ (gA G 27 0 (0)) ∧ b + sb ≤ (gA G 27 0 (1)) ∧ -h ≤ (gA G 24 0 (a + sa)) - (gA G 24 (1) (b + sb)) ∧ (gA G 24 0 (a + sa)) - (gA G 24 (1) (b + sb)) ≤ h) → P (some (vI 1000000000)) G) (h2 : ((sa = 0 → (gA G 26 0 (a)) ≠ 0) ∧ (sb = 0 → (gA G 26 (1) (b)) ≠ 0) ∧ a + sa ≤ (gA G 27 0 (0)) ∧ b + sb ≤ (gA G 27 0 (1)) ∧ -h ≤ (gA G 24 0 (a + sa)) - (gA G 24 (1) (b + sb)) ∧ (gA G 24 0 (a + sa)) - (gA G 24 (1) (b + sb)) ≤ h) → P (some (vI (gA G 28 0 ((a + sa) % 2 * 91 + (b + sb))))) G) : PW l w M_X0_leastAfter (d + 1) 0 [some (vR 0 (0)), some (vI (a)), some (vI (b)), some (vI (u)), some (vI (h)), none, none, none, none] [] G P := by
  have k1 := pAnd_1 u
  have k2 : pShr u 1 = sb := by rcases hu with z | z | z <;> rw [z.1, z.2.2] <;> decide +kernel
  have k3 : pAnd u 1 = sa := by omega
  refine pw_iload r_0_leastAfter_0 rfl ?_
  refine pw_const r_0_leastAfter_1 ?_
  refine pw_iand r_0_leastAfter_2 ?_
  refine pw_top (b := sa) (k3) ?_
  refine pw_istore (ls' := [some (vR 0 (0)), some (vI (a)), some (vI (b)), some (vI (u)), some (vI (h)), some (vI (sa)), none, none, none]) r_0_leastAfter_3 rfl rfl ?_
  refine pw_iload r_0_leastAfter_5 rfl ?_
  refine pw_const r_0_leastAfter_6 ?_
  refine pw_ishr r_0_leastAfter_7 ?_
  refine pw_top (b := sb) (k2) ?_
  refine pw_istore (ls' := [some (vR 0 (0)), some (vI (a)), some (vI (b)), some (vI (u)), some (vI (h)), some (vI (sa)), some (vI (sb)), none, none]) r_0_leastAfter_8 rfl rfl ?_
  refine pw_iload r_0_leastAfter_10 rfl ?_
  refine pw_if_ne r_0_leastAfter_12 (fun h12 => ?_) (fun h12 => ?_)
  · skip
    refine pw_iload r_0_leastAfter_26 rfl ?_
    refine pw_if_ne r_0_leastAfter_28 (fun h28 => ?_) (fun h28 => ?_)
    · skip
      refine pw_iload r_0_leastAfter_45 rfl ?_
      refine pw_iload r_0_leastAfter_46 rfl ?_
      refine pw_iadd r_0_leastAfter_48 (by omega) ?_
      refine pw_istore (ls' := [some (vR 0 (0)), some (vI (a)), some (vI (b)), some (vI (u)), some (vI (h)), some (vI (sa)), some (vI (sb)), some (vI ((a + sa))), none]) r_0_leastAfter_49 rfl rfl ?_
      refine pw_iload r_0_leastAfter_51 rfl ?_
      refine pw_iload r_0_leastAfter_52 rfl ?_
      refine pw_iadd r_0_leastAfter_54 (by omega) ?_
      refine pw_istore (ls' := [some (vR 0 (0)), some (vI (a)), some (vI (b)), some (vI (u)), some (vI (h)), some (vI (sa)), some (vI (sb)), some (vI ((a + sa))), some (vI ((b + sb)))]) r_0_leastAfter_55 rfl rfl ?_
      refine pw_iload r_0_leastAfter_57 rfl ?_
      refine pw_aload r_0_leastAfter_59 rfl ?_
      refine pw_getR r_0_leastAfter_60 fs_0_4 (by decide) ?_
      refine pw_const r_0_leastAfter_63 ?_
      refine pw_iald r_0_leastAfter_64 sh27 (by omega) (by omega) ?_
      refine pw_icmp_gt r_0_leastAfter_65 (fun h65 => ?_) (fun h65 => ?_)
      · skip
        refine pw_const r_0_leastAfter_106 ?_
        refine pw_iret r_0_leastAfter_108 rfl (Nat.le_refl _) ⟨rfl, ?_⟩
        first | exact h1 (fun q => by omega) | exact h1 (fun q => by rw [hab] at h103; split at h103 <;> omega)
      · skip
        refine pw_iload r_0_leastAfter_68 rfl ?_
        refine pw_aload r_0_leastAfter_70 rfl ?_
        refine pw_getR r_0_leastAfter_71 fs_0_4 (by decide) ?_
        refine pw_const r_0_leastAfter_74 ?_
        refine pw_iald r_0_leastAfter_75 sh27 (by omega) (by omega) ?_
        refine pw_icmp_gt r_0_leastAfter_76 (fun h76 => ?_) (fun h76 => ?_)
        · skip
          refine pw_const r_0_leastAfter_106 ?_
          refine pw_iret r_0_leastAfter_108 rfl (Nat.le_refl _) ⟨rfl, ?_⟩
          first | exact h1 (fun q => by omega) | exact h1 (fun q => by rw [hab] at h103; split at h103 <;> omega)
        · skip
          have hv0 := hov 0 (a + sa) (by decide) (by decide) (by omega) (by omega)
          have hv1 := hov 1 (b + sb) (by decide) (by decide) (by omega) (by omega)
          have hab := absI_id (a := (gA G 24 0 (a + sa)) - (gA G 24 (1) (b + sb))) (by omega)
          refine pw_aload r_0_leastAfter_79 rfl ?_
          refine pw_getR r_0_leastAfter_80 fs_0_2 (by decide) ?_
          refine pw_const r_0_leastAfter_83 ?_
          refine pw_aaldS r_0_leastAfter_84 sh23 (by decide) (by decide) aS23 rw24 (by omega) (by omega) ?_
          refine pw_iload r_0_leastAfter_85 rfl ?_
          refine pw_iald r_0_leastAfter_87 sh24 (by omega) (by omega) ?_
          refine pw_aload r_0_leastAfter_88 rfl ?_
          refine pw_getR r_0_leastAfter_89 fs_0_2 (by decide) ?_
          refine pw_const r_0_leastAfter_92 ?_
          refine pw_aaldS r_0_leastAfter_93 sh23 (by decide) (by decide) aS23 rw24 (by omega) (by omega) ?_
          refine pw_iload r_0_leastAfter_94 rfl ?_
          refine pw_iald r_0_leastAfter_96 sh24 (by omega) (by omega) ?_
          refine pw_isub r_0_leastAfter_97 (by omega) ?_
          refine pw_mabs r_0_leastAfter_98 rfl (Nat.le_of_ble_eq_true rfl) (Nat.le_refl _) ?_
          refine pw_iload r_0_leastAfter_101 rfl ?_
          refine pw_icmp_le r_0_leastAfter_103 (fun h103 => ?_) (fun h103 => ?_)
          · skip
            refine pw_aload r_0_leastAfter_109 rfl ?_
            refine pw_getR r_0_leastAfter_110 fs_0_5 (by decide) ?_
            refine pw_iload r_0_leastAfter_113 rfl ?_
            refine pw_const r_0_leastAfter_115 ?_
            refine pw_iand r_0_leastAfter_116 ?_
            refine pw_top (b := (a + sa) % 2) (pAnd_1 _) ?_
            refine pw_const r_0_leastAfter_117 ?_
            refine pw_imul r_0_leastAfter_119 (by omega) ?_
            refine pw_iload r_0_leastAfter_120 rfl ?_
            refine pw_iadd r_0_leastAfter_122 (by omega) ?_
            refine pw_iald r_0_leastAfter_123 sh28 (by omega) (by omega) ?_
            refine pw_iret r_0_leastAfter_124 rfl (Nat.le_refl _) ⟨rfl, ?_⟩
            refine h2 ?_; rw [hab] at h103; split at h103 <;> omega
          · skip
            refine pw_const r_0_leastAfter_106 ?_
            refine pw_iret r_0_leastAfter_108 rfl (Nat.le_refl _) ⟨rfl, ?_⟩
            first | exact h1 (fun q => by omega) | exact h1 (fun q => by rw [hab] at h103; split at h103 <;> omega)
    · skip
      refine pw_aload r_0_leastAfter_31 rfl ?_
      refine pw_getR r_0_leastAfter_32 fs_0_3 (by decide) ?_
      refine pw_const r_0_leastAfter_35 ?_
      refine pw_aaldS r_0_leastAfter_36 sh25 (by decide) (by decide) aS25 rw26 (by omega) (by omega) ?_
      refine pw_iload r_0_leastAfter_37 rfl ?_
      refine pw_iald r_0_leastAfter_38 sh26 (by omega) (by omega) ?_
      refine pw_if_ne r_0_leastAfter_39 (fun h39 => ?_) (fun h39 => ?_)
      · skip
        refine pw_iload r_0_leastAfter_45 rfl ?_
        refine pw_iload r_0_leastAfter_46 rfl ?_
        refine pw_iadd r_0_leastAfter_48 (by omega) ?_
        refine pw_istore (ls' := [some (vR 0 (0)), some (vI (a)), some (vI (b)), some (vI (u)), some (vI (h)), some (vI (sa)), some (vI (sb)), some (vI ((a + sa))), none]) r_0_leastAfter_49 rfl rfl ?_
        refine pw_iload r_0_leastAfter_51 rfl ?_
        refine pw_iload r_0_leastAfter_52 rfl ?_
        refine pw_iadd r_0_leastAfter_54 (by omega) ?_
        refine pw_istore (ls' := [some (vR 0 (0)), some (vI (a)), some (vI (b)), some (vI (u)), some (vI (h)), some (vI (sa)), some (vI (sb)), some (vI ((a + sa))), some (vI ((b + sb)))]) r_0_leastAfter_55 rfl rfl ?_
        refine pw_iload r_0_leastAfter_57 rfl ?_
        refine pw_aload r_0_leastAfter_59 rfl ?_
        refine pw_getR r_0_leastAfter_60 fs_0_4 (by decide) ?_
        refine pw_const r_0_leastAfter_63 ?_
        refine pw_iald r_0_leastAfter_64 sh27 (by omega) (by omega) ?_
        refine pw_icmp_gt r_0_leastAfter_65 (fun h65 => ?_) (fun h65 => ?_)
        · skip
          refine pw_const r_0_leastAfter_106 ?_
          refine pw_iret r_0_leastAfter_108 rfl (Nat.le_refl _) ⟨rfl, ?_⟩
          first | exact h1 (fun q => by omega) | exact h1 (fun q => by rw [hab] at h103; split at h103 <;> omega)
        · skip
          refine pw_iload r_0_leastAfter_68 rfl ?_
          refine pw_aload r_0_leastAfter_70 rfl ?_
          refine pw_getR r_0_leastAfter_71 fs_0_4 (by decide) ?_
          refine pw_const r_0_leastAfter_74 ?_
          refine pw_iald r_0_leastAfter_75 sh27 (by omega) (by omega) ?_
          refine pw_icmp_gt r_0_leastAfter_76 (fun h76 => ?_) (fun h76 => ?_)
          · skip
            refine pw_const r_0_leastAfter_106 ?_
            refine pw_iret r_0_leastAfter_108 rfl (Nat.le_refl _) ⟨rfl, ?_⟩
            first | exact h1 (fun q => by omega) | exact h1 (fun q => by rw [hab] at h103; split at h103 <;> omega)
          · skip
            have hv0 := hov 0 (a + sa) (by decide) (by decide) (by omega) (by omega)
            have hv1 := hov 1 (b + sb) (by decide) (by decide) (by omega) (by omega)
            have hab := absI_id (a := (gA G 24 0 (a + sa)) - (gA G 24 (1) (b + sb))) (by omega)
            refine pw_aload r_0_leastAfter_79 rfl ?_
            refine pw_getR r_0_leastAfter_80 fs_0_2 (by decide) ?_
            refine pw_const r_0_leastAfter_83 ?_
            refine pw_aaldS r_0_leastAfter_84 sh23 (by decide) (by decide) aS23 rw24 (by omega) (by omega) ?_
            refine pw_iload r_0_leastAfter_85 rfl ?_
            refine pw_iald r_0_leastAfter_87 sh24 (by omega) (by omega) ?_
            refine pw_aload r_0_leastAfter_88 rfl ?_
            refine pw_getR r_0_leastAfter_89 fs_0_2 (by decide) ?_
            refine pw_const r_0_leastAfter_92 ?_
            refine pw_aaldS r_0_leastAfter_93 sh23 (by decide) (by decide) aS23 rw24 (by omega) (by omega) ?_
            refine pw_iload r_0_leastAfter_94 rfl ?_
            refine pw_iald r_0_leastAfter_96 sh24 (by omega) (by omega) ?_
            refine pw_isub r_0_leastAfter_97 (by omega) ?_
            refine pw_mabs r_0_leastAfter_98 rfl (Nat.le_of_ble_eq_true rfl) (Nat.le_refl _) ?_
            refine pw_iload r_0_leastAfter_101 rfl ?_
            refine pw_icmp_le r_0_leastAfter_103 (fun h103 => ?_) (fun h103 => ?_)
            · skip
              refine pw_aload r_0_leastAfter_109 rfl ?_
              refine pw_getR r_0_leastAfter_110 fs_0_5 (by decide) ?_
              refine pw_iload r_0_leastAfter_113 rfl ?_
              refine pw_const r_0_leastAfter_115 ?_
              refine pw_iand r_0_leastAfter_116 ?_
              refine pw_top (b := (a + sa) % 2) (pAnd_1 _) ?_
              refine pw_const r_0_leastAfter_117 ?_
              refine pw_imul r_0_leastAfter_119 (by omega) ?_
              refine pw_iload r_0_leastAfter_120 rfl ?_
              refine pw_iadd r_0_leastAfter_122 (by omega) ?_
              refine pw_iald r_0_leastAfter_123 sh28 (by omega) (by omega) ?_
              refine pw_iret r_0_leastAfter_124 rfl (Nat.le_refl _) ⟨rfl, ?_⟩
              refine h2 ?_; rw [hab] at h103; split at h103 <;> omega
            · skip
              refine pw_const r_0_leastAfter_106 ?_
              refine pw_iret r_0_leastAfter_108 rfl (Nat.le_refl _) ⟨rfl, ?_⟩
              first | exact h1 (fun q => by omega) | exact h1 (fun q => by rw [hab] at h103; split at h103 <;> omega)
      · skip
        refine pw_const r_0_leastAfter_42 ?_
        refine pw_iret r_0_leastAfter_44 rfl (Nat.le_refl _) ⟨rfl, ?_⟩
        exact h1 (fun q => by omega)
  · skip
    refine pw_aload r_0_leastAfter_15 rfl ?_
    refine pw_getR r_0_leastAfter_16 fs_0_3 (by decide) ?_
    refine pw_const r_0_leastAfter_19 ?_
    refine pw_aaldS r_0_leastAfter_20 sh25 (by decide) (by decide) aS25 rw26 (by omega) (by omega) ?_
    refine pw_iload r_0_leastAfter_21 rfl ?_
    refine pw_iald r_0_leastAfter_22 sh26 (by omega) (by omega) ?_
    refine pw_if_eq r_0_leastAfter_23 (fun h23 => ?_) (fun h23 => ?_)
    · skip
      refine pw_const r_0_leastAfter_42 ?_
      refine pw_iret r_0_leastAfter_44 rfl (Nat.le_refl _) ⟨rfl, ?_⟩
      exact h1 (fun q => by omega)
    · skip
      refine pw_iload r_0_leastAfter_26 rfl ?_
      refine pw_if_ne r_0_leastAfter_28 (fun h28 => ?_) (fun h28 => ?_)
      · skip
        refine pw_iload r_0_leastAfter_45 rfl ?_
        refine pw_iload r_0_leastAfter_46 rfl ?_
        refine pw_iadd r_0_leastAfter_48 (by omega) ?_
        refine pw_istore (ls' := [some (vR 0 (0)), some (vI (a)), some (vI (b)), some (vI (u)), some (vI (h)), some (vI (sa)), some (vI (sb)), some (vI ((a + sa))), none]) r_0_leastAfter_49 rfl rfl ?_
        refine pw_iload r_0_leastAfter_51 rfl ?_
        refine pw_iload r_0_leastAfter_52 rfl ?_
        refine pw_iadd r_0_leastAfter_54 (by omega) ?_
        refine pw_istore (ls' := [some (vR 0 (0)), some (vI (a)), some (vI (b)), some (vI (u)), some (vI (h)), some (vI (sa)), some (vI (sb)), some (vI ((a + sa))), some (vI ((b + sb)))]) r_0_leastAfter_55 rfl rfl ?_
        refine pw_iload r_0_leastAfter_57 rfl ?_
        refine pw_aload r_0_leastAfter_59 rfl ?_
        refine pw_getR r_0_leastAfter_60 fs_0_4 (by decide) ?_
        refine pw_const r_0_leastAfter_63 ?_
        refine pw_iald r_0_leastAfter_64 sh27 (by omega) (by omega) ?_
        refine pw_icmp_gt r_0_leastAfter_65 (fun h65 => ?_) (fun h65 => ?_)
        · skip
          refine pw_const r_0_leastAfter_106 ?_
          refine pw_iret r_0_leastAfter_108 rfl (Nat.le_refl _) ⟨rfl, ?_⟩
          first | exact h1 (fun q => by omega) | exact h1 (fun q => by rw [hab] at h103; split at h103 <;> omega)
        · skip
          refine pw_iload r_0_leastAfter_68 rfl ?_
          refine pw_aload r_0_leastAfter_70 rfl ?_
          refine pw_getR r_0_leastAfter_71 fs_0_4 (by decide) ?_
          refine pw_const r_0_leastAfter_74 ?_
          refine pw_iald r_0_leastAfter_75 sh27 (by omega) (by omega) ?_
          refine pw_icmp_gt r_0_leastAfter_76 (fun h76 => ?_) (fun h76 => ?_)
          · skip
            refine pw_const r_0_leastAfter_106 ?_
            refine pw_iret r_0_leastAfter_108 rfl (Nat.le_refl _) ⟨rfl, ?_⟩
            first | exact h1 (fun q => by omega) | exact h1 (fun q => by rw [hab] at h103; split at h103 <;> omega)
          · skip
            have hv0 := hov 0 (a + sa) (by decide) (by decide) (by omega) (by omega)
            have hv1 := hov 1 (b + sb) (by decide) (by decide) (by omega) (by omega)
            have hab := absI_id (a := (gA G 24 0 (a + sa)) - (gA G 24 (1) (b + sb))) (by omega)
            refine pw_aload r_0_leastAfter_79 rfl ?_
            refine pw_getR r_0_leastAfter_80 fs_0_2 (by decide) ?_
            refine pw_const r_0_leastAfter_83 ?_
            refine pw_aaldS r_0_leastAfter_84 sh23 (by decide) (by decide) aS23 rw24 (by omega) (by omega) ?_
            refine pw_iload r_0_leastAfter_85 rfl ?_
            refine pw_iald r_0_leastAfter_87 sh24 (by omega) (by omega) ?_
            refine pw_aload r_0_leastAfter_88 rfl ?_
            refine pw_getR r_0_leastAfter_89 fs_0_2 (by decide) ?_
            refine pw_const r_0_leastAfter_92 ?_
            refine pw_aaldS r_0_leastAfter_93 sh23 (by decide) (by decide) aS23 rw24 (by omega) (by omega) ?_
            refine pw_iload r_0_leastAfter_94 rfl ?_
            refine pw_iald r_0_leastAfter_96 sh24 (by omega) (by omega) ?_
            refine pw_isub r_0_leastAfter_97 (by omega) ?_
            refine pw_mabs r_0_leastAfter_98 rfl (Nat.le_of_ble_eq_true rfl) (Nat.le_refl _) ?_
            refine pw_iload r_0_leastAfter_101 rfl ?_
            refine pw_icmp_le r_0_leastAfter_103 (fun h103 => ?_) (fun h103 => ?_)
            · skip
              refine pw_aload r_0_leastAfter_109 rfl ?_
              refine pw_getR r_0_leastAfter_110 fs_0_5 (by decide) ?_
              refine pw_iload r_0_leastAfter_113 rfl ?_
              refine pw_const r_0_leastAfter_115 ?_
              refine pw_iand r_0_leastAfter_116 ?_
              refine pw_top (b := (a + sa) % 2) (pAnd_1 _) ?_
              refine pw_const r_0_leastAfter_117 ?_
              refine pw_imul r_0_leastAfter_119 (by omega) ?_
              refine pw_iload r_0_leastAfter_120 rfl ?_
              refine pw_iadd r_0_leastAfter_122 (by omega) ?_
              refine pw_iald r_0_leastAfter_123 sh28 (by omega) (by omega) ?_
              refine pw_iret r_0_leastAfter_124 rfl (Nat.le_refl _) ⟨rfl, ?_⟩
              refine h2 ?_; rw [hab] at h103; split at h103 <;> omega
            · skip
              refine pw_const r_0_leastAfter_106 ?_
              refine pw_iret r_0_leastAfter_108 rfl (Nat.le_refl _) ⟨rfl, ?_⟩
              first | exact h1 (fun q => by omega) | exact h1 (fun q => by rw [hab] at h103; split at h103 <;> omega)
      · skip
        refine pw_aload r_0_leastAfter_31 rfl ?_
        refine pw_getR r_0_leastAfter_32 fs_0_3 (by decide) ?_
        refine pw_const r_0_leastAfter_35 ?_
        refine pw_aaldS r_0_leastAfter_36 sh25 (by decide) (by decide) aS25 rw26 (by omega) (by omega) ?_
        refine pw_iload r_0_leastAfter_37 rfl ?_
        refine pw_iald r_0_leastAfter_38 sh26 (by omega) (by omega) ?_
        refine pw_if_ne r_0_leastAfter_39 (fun h39 => ?_) (fun h39 => ?_)
        · skip
          refine pw_iload r_0_leastAfter_45 rfl ?_
          refine pw_iload r_0_leastAfter_46 rfl ?_
          refine pw_iadd r_0_leastAfter_48 (by omega) ?_
          refine pw_istore (ls' := [some (vR 0 (0)), some (vI (a)), some (vI (b)), some (vI (u)), some (vI (h)), some (vI (sa)), some (vI (sb)), some (vI ((a + sa))), none]) r_0_leastAfter_49 rfl rfl ?_
          refine pw_iload r_0_leastAfter_51 rfl ?_
          refine pw_iload r_0_leastAfter_52 rfl ?_
          refine pw_iadd r_0_leastAfter_54 (by omega) ?_
          refine pw_istore (ls' := [some (vR 0 (0)), some (vI (a)), some (vI (b)), some (vI (u)), some (vI (h)), some (vI (sa)), some (vI (sb)), some (vI ((a + sa))), some (vI ((b + sb)))]) r_0_leastAfter_55 rfl rfl ?_
          refine pw_iload r_0_leastAfter_57 rfl ?_
          refine pw_aload r_0_leastAfter_59 rfl ?_
          refine pw_getR r_0_leastAfter_60 fs_0_4 (by decide) ?_
          refine pw_const r_0_leastAfter_63 ?_
          refine pw_iald r_0_leastAfter_64 sh27 (by omega) (by omega) ?_
          refine pw_icmp_gt r_0_leastAfter_65 (fun h65 => ?_) (fun h65 => ?_)
          · skip
            refine pw_const r_0_leastAfter_106 ?_
            refine pw_iret r_0_leastAfter_108 rfl (Nat.le_refl _) ⟨rfl, ?_⟩
            first | exact h1 (fun q => by omega) | exact h1 (fun q => by rw [hab] at h103; split at h103 <;> omega)
          · skip
            refine pw_iload r_0_leastAfter_68 rfl ?_
            refine pw_aload r_0_leastAfter_70 rfl ?_
            refine pw_getR r_0_leastAfter_71 fs_0_4 (by decide) ?_
            refine pw_const r_0_leastAfter_74 ?_
            refine pw_iald r_0_leastAfter_75 sh27 (by omega) (by omega) ?_
            refine pw_icmp_gt r_0_leastAfter_76 (fun h76 => ?_) (fun h76 => ?_)
            · skip
              refine pw_const r_0_leastAfter_106 ?_
              refine pw_iret r_0_leastAfter_108 rfl (Nat.le_refl _) ⟨rfl, ?_⟩
              first | exact h1 (fun q => by omega) | exact h1 (fun q => by rw [hab] at h103; split at h103 <;> omega)
            · skip
              have hv0 := hov 0 (a + sa) (by decide) (by decide) (by omega) (by omega)
              have hv1 := hov 1 (b + sb) (by decide) (by decide) (by omega) (by omega)
              have hab := absI_id (a := (gA G 24 0 (a + sa)) - (gA G 24 (1) (b + sb))) (by omega)
              refine pw_aload r_0_leastAfter_79 rfl ?_
              refine pw_getR r_0_leastAfter_80 fs_0_2 (by decide) ?_
              refine pw_const r_0_leastAfter_83 ?_
              refine pw_aaldS r_0_leastAfter_84 sh23 (by decide) (by decide) aS23 rw24 (by omega) (by omega) ?_
              refine pw_iload r_0_leastAfter_85 rfl ?_
              refine pw_iald r_0_leastAfter_87 sh24 (by omega) (by omega) ?_
              refine pw_aload r_0_leastAfter_88 rfl ?_
              refine pw_getR r_0_leastAfter_89 fs_0_2 (by decide) ?_
              refine pw_const r_0_leastAfter_92 ?_
              refine pw_aaldS r_0_leastAfter_93 sh23 (by decide) (by decide) aS23 rw24 (by omega) (by omega) ?_
              refine pw_iload r_0_leastAfter_94 rfl ?_
              refine pw_iald r_0_leastAfter_96 sh24 (by omega) (by omega) ?_
              refine pw_isub r_0_leastAfter_97 (by omega) ?_
              refine pw_mabs r_0_leastAfter_98 rfl (Nat.le_of_ble_eq_true rfl) (Nat.le_refl _) ?_
              refine pw_iload r_0_leastAfter_101 rfl ?_
              refine pw_icmp_le r_0_leastAfter_103 (fun h103 => ?_) (fun h103 => ?_)
              · skip
                refine pw_aload r_0_leastAfter_109 rfl ?_
                refine pw_getR r_0_leastAfter_110 fs_0_5 (by decide) ?_
                refine pw_iload r_0_leastAfter_113 rfl ?_
                refine pw_const r_0_leastAfter_115 ?_
                refine pw_iand r_0_leastAfter_116 ?_
                refine pw_top (b := (a + sa) % 2) (pAnd_1 _) ?_
                refine pw_const r_0_leastAfter_117 ?_
                refine pw_imul r_0_leastAfter_119 (by omega) ?_
                refine pw_iload r_0_leastAfter_120 rfl ?_
                refine pw_iadd r_0_leastAfter_122 (by omega) ?_
                refine pw_iald r_0_leastAfter_123 sh28 (by omega) (by omega) ?_
                refine pw_iret r_0_leastAfter_124 rfl (Nat.le_refl _) ⟨rfl, ?_⟩
                refine h2 ?_; rw [hab] at h103; split at h103 <;> omega
              · skip
                refine pw_const r_0_leastAfter_106 ?_
                refine pw_iret r_0_leastAfter_108 rfl (Nat.le_refl _) ⟨rfl, ?_⟩
                first | exact h1 (fun q => by omega) | exact h1 (fun q => by rw [hab] at h103; split at h103 <;> omega)
        · skip
          refine pw_const r_0_leastAfter_42 ?_
          refine pw_iret r_0_leastAfter_44 rfl (Nat.le_refl _) ⟨rfl, ?_⟩
          exact h1 (fun q => by omega)
