theorem pw_getBv {l : Launch} {w : Wo} {M : MI} {d K k pc pc' c' : Nat} {r r' : Int} {ls : List (Option PV)} {st : List PV} {G : PH} {Φ : Wo → Option PV → PH → Prop} (hd : RG M pc 4 3 pc') (hv : gD G 4 r 3 = some (c', r')) (K0 : PWg l w M d K k pc' ls (vR c' r' :: st) G Φ) : PWg l w M d K k pc ls (vR 4 r :: st) G Φ := pw_getB hd (by rw [hv]; exact K0)
/-- the reference's next byte -/
def mBy (G : PH) : Int := if (gF G 12 0 45) < (gF G 12 0 46) then (if (gF G 12 0 44) < 0 then (gA G 228 0 ((gF G 12 0 45))) else (gA G 229 0 ((gF G 12 0 44) + (gF G 12 0 45)))) else 0

theorem wd_f4_32 : Cond.fieldLink "NameRolls$Reader" 32 "NameRolls$Reader" "fault" "I" ∈ UW := UW1_at 196 (by decide +kernel) rfl
theorem wd_f4_29 : Cond.fieldLink "NameRolls$Reader" 29 "NameRolls$Reader" "at" "I" ∈ UW := UW1_at 202 (by decide +kernel) rfl
theorem wd_f4_25 : Cond.fieldLink "NameRolls$Reader" 25 "NameRolls$Reader" "end" "I" ∈ UW := UW1_at 201 (by decide +kernel) rfl
theorem wd_f4_15 : Cond.fieldLink "NameRolls$Reader" 15 "NameRolls$Reader" "bytes" "[B" ∈ UW := UW1_at 200 (by decide +kernel) rfl
theorem wd_f12_334 : Cond.fieldLink "NameRollsModel" 334 "NameRollsModel" "fault" "I" ∈ UW := UW7_at 115 (by decide +kernel) rfl
theorem wd_f12_325 : Cond.fieldLink "NameRollsModel" 325 "NameRollsModel" "at" "I" ∈ UW := UW7_at 113 (by decide +kernel) rfl
theorem wd_f12_328 : Cond.fieldLink "NameRollsModel" 328 "NameRollsModel" "ends" "I" ∈ UW := UW7_at 114 (by decide +kernel) rfl
theorem wd_f12_331 : Cond.fieldLink "NameRollsModel" 331 "NameRollsModel" "base" "I" ∈ UW := UW7_at 112 (by decide +kernel) rfl
theorem wd_f12_97 : Cond.fieldLink "NameRollsModel" 97 "NameRollsModel" "text" "[I" ∈ UW := UW7_at 105 (by decide +kernel) rfl
theorem wd_m12_337 : Cond.methodLink "NameRollsModel" 337 M_X12_byteAt.1 ∈ UW := UW9_at 90 (by decide +kernel) rfl
theorem wd_s12_byteAt : Cond.selects M_X12_byteAt.1.cls M_X12_byteAt.1 M_X12_byteAt.1 ∈ UW := UWp_at 79 (by decide +kernel) rfl
theorem r_4_work_0 : RL M_X4_work 0 0 1 := Or.inl ⟨0, by decide +kernel, rfl, rfl⟩
theorem r_4_work_1 : RLS M_X4_work 1 [(38, 98), (42, 153), (43, 145), (45, 149), (47, 157), (60, 112), (61, 123), (62, 134), (124, 84)] 169 := ⟨168, #[(38, 97), (42, 152), (43, 144), (45, 148), (47, 156), (60, 111), (61, 122), (62, 133), (124, 83)], 83, by decide +kernel, by decide, rfl, by decide⟩
theorem r_4_work_98 : RL M_X4_work 98 1 99 := Or.inl ⟨1, by decide +kernel, rfl, rfl⟩
theorem r_4_work_99 : RB M_X4_work 99 (.ifCond .eq) 110 102 := ⟨11, by decide +kernel, rfl, rfl⟩
theorem r_4_work_110 : RC M_X4_work 110 0 111 := ⟨⟨by decide, by decide⟩, Or.inl ⟨by decide +kernel, rfl⟩⟩
theorem r_4_work_111 : RW M_X4_work 111 .ireturn 112 1 := ⟨by decide +kernel, rfl⟩
theorem r_4_work_102 : RL M_X4_work 102 2 103 := Or.inl ⟨2, by decide +kernel, rfl, rfl⟩
theorem r_4_work_103 : RB M_X4_work 103 (.ifCond .eq) 110 106 := ⟨7, by decide +kernel, rfl, rfl⟩
theorem r_4_work_106 : RC M_X4_work 106 1 107 := ⟨⟨by decide, by decide⟩, Or.inl ⟨by decide +kernel, rfl⟩⟩
theorem r_4_work_107 : RB M_X4_work 107 .goto 111 110 := ⟨4, by decide +kernel, rfl, rfl⟩
theorem r_4_work_153 : RL M_X4_work 153 1 154 := Or.inl ⟨1, by decide +kernel, rfl, rfl⟩
theorem r_4_work_154 : RL M_X4_work 154 2 155 := Or.inl ⟨2, by decide +kernel, rfl, rfl⟩
theorem r_4_work_155 : RW M_X4_work 155 .imul 156 1 := ⟨by decide +kernel, rfl⟩
theorem r_4_work_156 : RW M_X4_work 156 .ireturn 157 1 := ⟨by decide +kernel, rfl⟩
theorem r_4_work_145 : RL M_X4_work 145 1 146 := Or.inl ⟨1, by decide +kernel, rfl, rfl⟩
theorem r_4_work_146 : RL M_X4_work 146 2 147 := Or.inl ⟨2, by decide +kernel, rfl, rfl⟩
theorem r_4_work_147 : RW M_X4_work 147 .iadd 148 1 := ⟨by decide +kernel, rfl⟩
theorem r_4_work_148 : RW M_X4_work 148 .ireturn 149 1 := ⟨by decide +kernel, rfl⟩
theorem r_4_work_149 : RL M_X4_work 149 1 150 := Or.inl ⟨1, by decide +kernel, rfl, rfl⟩
theorem r_4_work_150 : RL M_X4_work 150 2 151 := Or.inl ⟨2, by decide +kernel, rfl, rfl⟩
theorem r_4_work_151 : RW M_X4_work 151 .isub 152 1 := ⟨by decide +kernel, rfl⟩
theorem r_4_work_152 : RW M_X4_work 152 .ireturn 153 1 := ⟨by decide +kernel, rfl⟩
theorem r_4_work_157 : RL M_X4_work 157 2 158 := Or.inl ⟨2, by decide +kernel, rfl, rfl⟩
theorem r_4_work_158 : RB M_X4_work 158 (.ifCond .ne) 165 161 := ⟨7, by decide +kernel, rfl, rfl⟩
theorem r_4_work_165 : RL M_X4_work 165 1 166 := Or.inl ⟨1, by decide +kernel, rfl, rfl⟩
theorem r_4_work_166 : RL M_X4_work 166 2 167 := Or.inl ⟨2, by decide +kernel, rfl, rfl⟩
theorem r_4_work_167 : RW M_X4_work 167 .idiv 168 1 := ⟨by decide +kernel, rfl⟩
theorem r_4_work_168 : RW M_X4_work 168 .ireturn 169 1 := ⟨by decide +kernel, rfl⟩
theorem r_4_work_161 : RC M_X4_work 161 0 162 := ⟨⟨by decide, by decide⟩, Or.inl ⟨by decide +kernel, rfl⟩⟩
theorem r_4_work_162 : RB M_X4_work 162 .goto 168 165 := ⟨6, by decide +kernel, rfl, rfl⟩
theorem r_4_work_112 : RL M_X4_work 112 1 113 := Or.inl ⟨1, by decide +kernel, rfl, rfl⟩
theorem r_4_work_113 : RL M_X4_work 113 2 114 := Or.inl ⟨2, by decide +kernel, rfl, rfl⟩
theorem r_4_work_114 : RB M_X4_work 114 (.if_icmp .ge) 121 117 := ⟨7, by decide +kernel, rfl, rfl⟩
theorem r_4_work_121 : RC M_X4_work 121 0 122 := ⟨⟨by decide, by decide⟩, Or.inl ⟨by decide +kernel, rfl⟩⟩
theorem r_4_work_122 : RW M_X4_work 122 .ireturn 123 1 := ⟨by decide +kernel, rfl⟩
theorem r_4_work_117 : RC M_X4_work 117 1 118 := ⟨⟨by decide, by decide⟩, Or.inl ⟨by decide +kernel, rfl⟩⟩
theorem r_4_work_118 : RB M_X4_work 118 .goto 122 121 := ⟨4, by decide +kernel, rfl, rfl⟩
theorem r_4_work_123 : RL M_X4_work 123 1 124 := Or.inl ⟨1, by decide +kernel, rfl, rfl⟩
theorem r_4_work_124 : RL M_X4_work 124 2 125 := Or.inl ⟨2, by decide +kernel, rfl, rfl⟩
theorem r_4_work_125 : RB M_X4_work 125 (.if_icmp .ne) 132 128 := ⟨7, by decide +kernel, rfl, rfl⟩
theorem r_4_work_132 : RC M_X4_work 132 0 133 := ⟨⟨by decide, by decide⟩, Or.inl ⟨by decide +kernel, rfl⟩⟩
theorem r_4_work_133 : RW M_X4_work 133 .ireturn 134 1 := ⟨by decide +kernel, rfl⟩
theorem r_4_work_128 : RC M_X4_work 128 1 129 := ⟨⟨by decide, by decide⟩, Or.inl ⟨by decide +kernel, rfl⟩⟩
theorem r_4_work_129 : RB M_X4_work 129 .goto 133 132 := ⟨4, by decide +kernel, rfl, rfl⟩
theorem r_4_work_134 : RL M_X4_work 134 1 135 := Or.inl ⟨1, by decide +kernel, rfl, rfl⟩
theorem r_4_work_135 : RL M_X4_work 135 2 136 := Or.inl ⟨2, by decide +kernel, rfl, rfl⟩
theorem r_4_work_136 : RB M_X4_work 136 (.if_icmp .le) 143 139 := ⟨7, by decide +kernel, rfl, rfl⟩
theorem r_4_work_143 : RC M_X4_work 143 0 144 := ⟨⟨by decide, by decide⟩, Or.inl ⟨by decide +kernel, rfl⟩⟩
theorem r_4_work_144 : RW M_X4_work 144 .ireturn 145 1 := ⟨by decide +kernel, rfl⟩
theorem r_4_work_139 : RC M_X4_work 139 1 140 := ⟨⟨by decide, by decide⟩, Or.inl ⟨by decide +kernel, rfl⟩⟩
theorem r_4_work_140 : RB M_X4_work 140 .goto 144 143 := ⟨4, by decide +kernel, rfl, rfl⟩
theorem r_4_work_84 : RL M_X4_work 84 1 85 := Or.inl ⟨1, by decide +kernel, rfl, rfl⟩
theorem r_4_work_85 : RB M_X4_work 85 (.ifCond .ne) 92 88 := ⟨7, by decide +kernel, rfl, rfl⟩
theorem r_4_work_92 : RC M_X4_work 92 1 93 := ⟨⟨by decide, by decide⟩, Or.inl ⟨by decide +kernel, rfl⟩⟩
theorem r_4_work_93 : RB M_X4_work 93 .goto 97 96 := ⟨4, by decide +kernel, rfl, rfl⟩
theorem r_4_work_97 : RW M_X4_work 97 .ireturn 98 1 := ⟨by decide +kernel, rfl⟩
theorem r_4_work_88 : RL M_X4_work 88 2 89 := Or.inl ⟨2, by decide +kernel, rfl, rfl⟩
theorem r_4_work_89 : RB M_X4_work 89 (.ifCond .eq) 96 92 := ⟨7, by decide +kernel, rfl, rfl⟩
theorem r_4_work_96 : RC M_X4_work 96 0 97 := ⟨⟨by decide, by decide⟩, Or.inl ⟨by decide +kernel, rfl⟩⟩
theorem r_4_work_169 : RC M_X4_work 169 0 170 := ⟨⟨by decide, by decide⟩, Or.inl ⟨by decide +kernel, rfl⟩⟩
theorem r_4_work_170 : RW M_X4_work 170 .ireturn 171 1 := ⟨by decide +kernel, rfl⟩
theorem r_4_sign_0 : RA M_X4_sign 0 0 1 := Or.inl ⟨0, by decide +kernel, rfl, rfl⟩
theorem r_4_sign_1 : RG M_X4_sign 1 4 1 4 := ⟨32, _, by decide +kernel, rfl, by decide, wd_f4_32, rfl, rfl⟩
theorem r_4_sign_4 : RB M_X4_sign 4 (.ifCond .ge) 41 7 := ⟨37, by decide +kernel, rfl, rfl⟩
theorem r_4_sign_41 : RC M_X4_sign 41 (-1) 42 := ⟨⟨by decide, by decide⟩, Or.inl ⟨by decide +kernel, rfl⟩⟩
theorem r_4_sign_42 : RW M_X4_sign 42 .ireturn 43 1 := ⟨by decide +kernel, rfl⟩
theorem r_4_sign_7 : RA M_X4_sign 7 0 8 := Or.inl ⟨0, by decide +kernel, rfl, rfl⟩
theorem r_4_sign_8 : RG M_X4_sign 8 4 5 11 := ⟨29, _, by decide +kernel, rfl, by decide, wd_f4_29, rfl, rfl⟩
theorem r_4_sign_11 : RB M_X4_sign 11 (.ifCond .lt) 41 14 := ⟨30, by decide +kernel, rfl, rfl⟩
theorem r_4_sign_14 : RA M_X4_sign 14 0 15 := Or.inl ⟨0, by decide +kernel, rfl, rfl⟩
theorem r_4_sign_15 : RG M_X4_sign 15 4 5 18 := ⟨29, _, by decide +kernel, rfl, by decide, wd_f4_29, rfl, rfl⟩
theorem r_4_sign_18 : RA M_X4_sign 18 0 19 := Or.inl ⟨0, by decide +kernel, rfl, rfl⟩
theorem r_4_sign_19 : RG M_X4_sign 19 4 4 22 := ⟨25, _, by decide +kernel, rfl, by decide, wd_f4_25, rfl, rfl⟩
theorem r_4_sign_22 : RB M_X4_sign 22 (.if_icmp .ge) 41 25 := ⟨19, by decide +kernel, rfl, rfl⟩
theorem r_4_sign_25 : RA M_X4_sign 25 0 26 := Or.inl ⟨0, by decide +kernel, rfl, rfl⟩
theorem r_4_sign_26 : RG M_X4_sign 26 4 3 29 := ⟨15, _, by decide +kernel, rfl, by decide, wd_f4_15, rfl, rfl⟩
theorem r_4_sign_29 : RA M_X4_sign 29 0 30 := Or.inl ⟨0, by decide +kernel, rfl, rfl⟩
theorem r_4_sign_30 : RG M_X4_sign 30 4 5 33 := ⟨29, _, by decide +kernel, rfl, by decide, wd_f4_29, rfl, rfl⟩
theorem r_4_sign_33 : RW M_X4_sign 33 .baload 34 1 := ⟨by decide +kernel, rfl⟩
theorem r_4_sign_34 : RC M_X4_sign 34 255 37 := ⟨⟨by decide, by decide⟩, Or.inr (Or.inr (Or.inl ⟨by decide +kernel, by decide, rfl⟩))⟩
theorem r_4_sign_37 : RW M_X4_sign 37 .iand 38 1 := ⟨by decide +kernel, rfl⟩
theorem r_4_sign_38 : RB M_X4_sign 38 .goto 42 41 := ⟨4, by decide +kernel, rfl, rfl⟩
theorem r_4_fail_0 : RA M_X4_fail 0 0 1 := Or.inl ⟨0, by decide +kernel, rfl, rfl⟩
theorem r_4_fail_1 : RG M_X4_fail 1 4 1 4 := ⟨32, _, by decide +kernel, rfl, by decide, wd_f4_32, rfl, rfl⟩
theorem r_4_fail_4 : RB M_X4_fail 4 (.ifCond .ge) 15 7 := ⟨11, by decide +kernel, rfl, rfl⟩
theorem r_4_fail_15 : RW M_X4_fail 15 .return_ 16 1 := ⟨by decide +kernel, rfl⟩
theorem r_4_fail_7 : RA M_X4_fail 7 0 8 := Or.inl ⟨0, by decide +kernel, rfl, rfl⟩
theorem r_4_fail_8 : RA M_X4_fail 8 0 9 := Or.inl ⟨0, by decide +kernel, rfl, rfl⟩
theorem r_4_fail_9 : RG M_X4_fail 9 4 5 12 := ⟨29, _, by decide +kernel, rfl, by decide, wd_f4_29, rfl, rfl⟩
theorem r_4_fail_12 : RP M_X4_fail 12 4 1 15 := ⟨32, _, by decide +kernel, rfl, by decide, wd_f4_32, rfl, Or.inl rfl, rfl⟩
theorem r_4_rankOf_0 : RL M_X4_rankOf 0 0 1 := Or.inl ⟨0, by decide +kernel, rfl, rfl⟩
theorem r_4_rankOf_1 : RLS M_X4_rankOf 1 [(38, 86), (42, 92), (43, 90), (45, 90), (47, 92), (60, 88), (61, 88), (62, 88), (124, 84)] 94 := ⟨93, #[(38, 85), (42, 91), (43, 89), (45, 89), (47, 91), (60, 87), (61, 87), (62, 87), (124, 83)], 83, by decide +kernel, by decide, rfl, by decide⟩
theorem r_4_rankOf_86 : RC M_X4_rankOf 86 1 87 := ⟨⟨by decide, by decide⟩, Or.inl ⟨by decide +kernel, rfl⟩⟩
theorem r_4_rankOf_87 : RW M_X4_rankOf 87 .ireturn 88 1 := ⟨by decide +kernel, rfl⟩
theorem r_4_rankOf_92 : RC M_X4_rankOf 92 4 93 := ⟨⟨by decide, by decide⟩, Or.inl ⟨by decide +kernel, rfl⟩⟩
theorem r_4_rankOf_93 : RW M_X4_rankOf 93 .ireturn 94 1 := ⟨by decide +kernel, rfl⟩
theorem r_4_rankOf_90 : RC M_X4_rankOf 90 3 91 := ⟨⟨by decide, by decide⟩, Or.inl ⟨by decide +kernel, rfl⟩⟩
theorem r_4_rankOf_91 : RW M_X4_rankOf 91 .ireturn 92 1 := ⟨by decide +kernel, rfl⟩
theorem r_4_rankOf_88 : RC M_X4_rankOf 88 2 89 := ⟨⟨by decide, by decide⟩, Or.inl ⟨by decide +kernel, rfl⟩⟩
theorem r_4_rankOf_89 : RW M_X4_rankOf 89 .ireturn 90 1 := ⟨by decide +kernel, rfl⟩
theorem r_4_rankOf_84 : RC M_X4_rankOf 84 0 85 := ⟨⟨by decide, by decide⟩, Or.inl ⟨by decide +kernel, rfl⟩⟩
theorem r_4_rankOf_85 : RW M_X4_rankOf 85 .ireturn 86 1 := ⟨by decide +kernel, rfl⟩
theorem r_4_rankOf_94 : RC M_X4_rankOf 94 (-1) 95 := ⟨⟨by decide, by decide⟩, Or.inl ⟨by decide +kernel, rfl⟩⟩
theorem r_4_rankOf_95 : RW M_X4_rankOf 95 .ireturn 96 1 := ⟨by decide +kernel, rfl⟩
theorem r_12_nameOf_0 : RL M_X12_nameOf 0 0 1 := Or.inl ⟨0, by decide +kernel, rfl, rfl⟩
theorem r_12_nameOf_1 : RTS M_X12_nameOf 1 [(97, 124), (98, 128), (99, 131), (100, 126), (101, 137), (102, 137), (103, 118), (104, 137), (105, 137), (106, 137), (107, 116), (108, 137), (109, 137), (110, 122), (111, 137), (112, 137), (113, 137), (114, 137), (115, 137), (116, 134), (117, 137), (118, 137), (119, 137), (120, 137), (121, 120)] 137 := ⟨136, 97, 121, #[123, 127, 130, 125, 136, 136, 117, 136, 136, 136, 115, 136, 136, 121, 136, 136, 136, 136, 136, 133, 136, 136, 136, 136, 119], 115, by decide +kernel, by decide, rfl, by decide⟩
theorem r_12_nameOf_124 : RC M_X12_nameOf 124 4 125 := ⟨⟨by decide, by decide⟩, Or.inl ⟨by decide +kernel, rfl⟩⟩
theorem r_12_nameOf_125 : RW M_X12_nameOf 125 .ireturn 126 1 := ⟨by decide +kernel, rfl⟩
theorem r_12_nameOf_128 : RC M_X12_nameOf 128 6 130 := ⟨⟨by decide, by decide⟩, Or.inr (Or.inl ⟨by decide +kernel, by decide, rfl⟩)⟩
theorem r_12_nameOf_130 : RW M_X12_nameOf 130 .ireturn 131 1 := ⟨by decide +kernel, rfl⟩
theorem r_12_nameOf_131 : RC M_X12_nameOf 131 7 133 := ⟨⟨by decide, by decide⟩, Or.inr (Or.inl ⟨by decide +kernel, by decide, rfl⟩)⟩
theorem r_12_nameOf_133 : RW M_X12_nameOf 133 .ireturn 134 1 := ⟨by decide +kernel, rfl⟩
theorem r_12_nameOf_126 : RC M_X12_nameOf 126 5 127 := ⟨⟨by decide, by decide⟩, Or.inl ⟨by decide +kernel, rfl⟩⟩
theorem r_12_nameOf_127 : RW M_X12_nameOf 127 .ireturn 128 1 := ⟨by decide +kernel, rfl⟩
theorem r_12_nameOf_137 : RC M_X12_nameOf 137 (-1) 138 := ⟨⟨by decide, by decide⟩, Or.inl ⟨by decide +kernel, rfl⟩⟩
theorem r_12_nameOf_138 : RW M_X12_nameOf 138 .ireturn 139 1 := ⟨by decide +kernel, rfl⟩
theorem r_12_nameOf_118 : RC M_X12_nameOf 118 1 119 := ⟨⟨by decide, by decide⟩, Or.inl ⟨by decide +kernel, rfl⟩⟩
theorem r_12_nameOf_119 : RW M_X12_nameOf 119 .ireturn 120 1 := ⟨by decide +kernel, rfl⟩
theorem r_12_nameOf_116 : RC M_X12_nameOf 116 0 117 := ⟨⟨by decide, by decide⟩, Or.inl ⟨by decide +kernel, rfl⟩⟩
theorem r_12_nameOf_117 : RW M_X12_nameOf 117 .ireturn 118 1 := ⟨by decide +kernel, rfl⟩
theorem r_12_nameOf_122 : RC M_X12_nameOf 122 3 123 := ⟨⟨by decide, by decide⟩, Or.inl ⟨by decide +kernel, rfl⟩⟩
theorem r_12_nameOf_123 : RW M_X12_nameOf 123 .ireturn 124 1 := ⟨by decide +kernel, rfl⟩
theorem r_12_nameOf_134 : RC M_X12_nameOf 134 8 136 := ⟨⟨by decide, by decide⟩, Or.inr (Or.inl ⟨by decide +kernel, by decide, rfl⟩)⟩
theorem r_12_nameOf_136 : RW M_X12_nameOf 136 .ireturn 137 1 := ⟨by decide +kernel, rfl⟩
theorem r_12_nameOf_120 : RC M_X12_nameOf 120 2 121 := ⟨⟨by decide, by decide⟩, Or.inl ⟨by decide +kernel, rfl⟩⟩
theorem r_12_nameOf_121 : RW M_X12_nameOf 121 .ireturn 122 1 := ⟨by decide +kernel, rfl⟩
theorem r_12_wrong_0 : RA M_X12_wrong 0 0 1 := Or.inl ⟨0, by decide +kernel, rfl, rfl⟩
theorem r_12_wrong_1 : RA M_X12_wrong 1 0 2 := Or.inl ⟨0, by decide +kernel, rfl, rfl⟩
theorem r_12_wrong_2 : RG M_X12_wrong 2 12 47 5 := ⟨334, _, by decide +kernel, rfl, by decide, wd_f12_334, rfl, rfl⟩
theorem r_12_wrong_5 : RB M_X12_wrong 5 (.ifCond .ge) 15 8 := ⟨10, by decide +kernel, rfl, rfl⟩
theorem r_12_wrong_15 : RA M_X12_wrong 15 0 16 := Or.inl ⟨0, by decide +kernel, rfl, rfl⟩
theorem r_12_wrong_16 : RG M_X12_wrong 16 12 47 19 := ⟨334, _, by decide +kernel, rfl, by decide, wd_f12_334, rfl, rfl⟩
theorem r_12_wrong_19 : RP M_X12_wrong 19 12 47 22 := ⟨334, _, by decide +kernel, rfl, by decide, wd_f12_334, rfl, Or.inl rfl, rfl⟩
theorem r_12_wrong_22 : RC M_X12_wrong 22 0 23 := ⟨⟨by decide, by decide⟩, Or.inl ⟨by decide +kernel, rfl⟩⟩
theorem r_12_wrong_23 : RW M_X12_wrong 23 .ireturn 24 1 := ⟨by decide +kernel, rfl⟩
theorem r_12_wrong_8 : RA M_X12_wrong 8 0 9 := Or.inl ⟨0, by decide +kernel, rfl, rfl⟩
theorem r_12_wrong_9 : RG M_X12_wrong 9 12 45 12 := ⟨325, _, by decide +kernel, rfl, by decide, wd_f12_325, rfl, rfl⟩
theorem r_12_wrong_12 : RB M_X12_wrong 12 .goto 19 15 := ⟨7, by decide +kernel, rfl, rfl⟩
theorem r_12_byteAt_0 : RA M_X12_byteAt 0 0 1 := Or.inl ⟨0, by decide +kernel, rfl, rfl⟩
theorem r_12_byteAt_1 : RG M_X12_byteAt 1 12 45 4 := ⟨325, _, by decide +kernel, rfl, by decide, wd_f12_325, rfl, rfl⟩
theorem r_12_byteAt_4 : RA M_X12_byteAt 4 0 5 := Or.inl ⟨0, by decide +kernel, rfl, rfl⟩
theorem r_12_byteAt_5 : RG M_X12_byteAt 5 12 46 8 := ⟨328, _, by decide +kernel, rfl, by decide, wd_f12_328, rfl, rfl⟩
theorem r_12_byteAt_8 : RB M_X12_byteAt 8 (.if_icmp .ge) 47 11 := ⟨39, by decide +kernel, rfl, rfl⟩
theorem r_12_byteAt_47 : RC M_X12_byteAt 47 0 48 := ⟨⟨by decide, by decide⟩, Or.inl ⟨by decide +kernel, rfl⟩⟩
theorem r_12_byteAt_48 : RW M_X12_byteAt 48 .ireturn 49 1 := ⟨by decide +kernel, rfl⟩
theorem r_12_byteAt_11 : RA M_X12_byteAt 11 0 12 := Or.inl ⟨0, by decide +kernel, rfl, rfl⟩
theorem r_12_byteAt_12 : RG M_X12_byteAt 12 12 44 15 := ⟨331, _, by decide +kernel, rfl, by decide, wd_f12_331, rfl, rfl⟩
theorem r_12_byteAt_15 : RB M_X12_byteAt 15 (.ifCond .ge) 30 18 := ⟨15, by decide +kernel, rfl, rfl⟩
theorem r_12_byteAt_30 : RA M_X12_byteAt 30 0 31 := Or.inl ⟨0, by decide +kernel, rfl, rfl⟩
theorem r_12_byteAt_31 : RG M_X12_byteAt 31 12 37 34 := ⟨97, _, by decide +kernel, rfl, by decide, wd_f12_97, rfl, rfl⟩
theorem r_12_byteAt_34 : RA M_X12_byteAt 34 0 35 := Or.inl ⟨0, by decide +kernel, rfl, rfl⟩
theorem r_12_byteAt_35 : RG M_X12_byteAt 35 12 44 38 := ⟨331, _, by decide +kernel, rfl, by decide, wd_f12_331, rfl, rfl⟩
theorem r_12_byteAt_38 : RA M_X12_byteAt 38 0 39 := Or.inl ⟨0, by decide +kernel, rfl, rfl⟩
theorem r_12_byteAt_39 : RG M_X12_byteAt 39 12 45 42 := ⟨325, _, by decide +kernel, rfl, by decide, wd_f12_325, rfl, rfl⟩
theorem r_12_byteAt_42 : RW M_X12_byteAt 42 .iadd 43 1 := ⟨by decide +kernel, rfl⟩
theorem r_12_byteAt_43 : RW M_X12_byteAt 43 .iaload 44 1 := ⟨by decide +kernel, rfl⟩
theorem r_12_byteAt_44 : RB M_X12_byteAt 44 .goto 48 47 := ⟨4, by decide +kernel, rfl, rfl⟩
theorem r_12_byteAt_18 : RA M_X12_byteAt 18 0 19 := Or.inl ⟨0, by decide +kernel, rfl, rfl⟩
theorem r_12_byteAt_19 : RG M_X12_byteAt 19 12 35 22 := ⟨94, _, by decide +kernel, rfl, by decide, wd_f12_94, rfl, rfl⟩
theorem r_12_byteAt_22 : RA M_X12_byteAt 22 0 23 := Or.inl ⟨0, by decide +kernel, rfl, rfl⟩
theorem r_12_byteAt_23 : RG M_X12_byteAt 23 12 45 26 := ⟨325, _, by decide +kernel, rfl, by decide, wd_f12_325, rfl, rfl⟩
theorem r_12_byteAt_26 : RW M_X12_byteAt 26 .iaload 27 1 := ⟨by decide +kernel, rfl⟩
theorem r_12_byteAt_27 : RB M_X12_byteAt 27 .goto 48 30 := ⟨21, by decide +kernel, rfl, rfl⟩
theorem r_12_takes_0 : RA M_X12_takes 0 0 1 := Or.inl ⟨0, by decide +kernel, rfl, rfl⟩
theorem r_12_takes_1 : RG M_X12_takes 1 12 47 4 := ⟨334, _, by decide +kernel, rfl, by decide, wd_f12_334, rfl, rfl⟩
theorem r_12_takes_4 : RB M_X12_takes 4 (.ifCond .ge) 15 7 := ⟨11, by decide +kernel, rfl, rfl⟩
theorem r_12_takes_15 : RC M_X12_takes 15 0 16 := ⟨⟨by decide, by decide⟩, Or.inl ⟨by decide +kernel, rfl⟩⟩
theorem r_12_takes_16 : RW M_X12_takes 16 .ireturn 17 1 := ⟨by decide +kernel, rfl⟩
theorem r_12_takes_7 : RA M_X12_takes 7 0 8 := Or.inl ⟨0, by decide +kernel, rfl, rfl⟩
theorem r_12_takes_8 : RKv M_X12_takes M_X12_byteAt 8 0 12 11 := ⟨337, by decide +kernel, wd_m12_337, ok_M_X12_byteAt, wd_s12_byteAt, rfl⟩
theorem r_12_takes_11 : RL M_X12_takes 11 1 12 := Or.inl ⟨1, by decide +kernel, rfl, rfl⟩
theorem r_12_takes_12 : RB M_X12_takes 12 (.if_icmp .eq) 17 15 := ⟨5, by decide +kernel, rfl, rfl⟩
theorem r_12_takes_17 : RA M_X12_takes 17 0 18 := Or.inl ⟨0, by decide +kernel, rfl, rfl⟩
theorem r_12_takes_18 : RW M_X12_takes 18 .dup 19 1 := ⟨by decide +kernel, rfl⟩
theorem r_12_takes_19 : RG M_X12_takes 19 12 45 22 := ⟨325, _, by decide +kernel, rfl, by decide, wd_f12_325, rfl, rfl⟩
theorem r_12_takes_22 : RC M_X12_takes 22 1 23 := ⟨⟨by decide, by decide⟩, Or.inl ⟨by decide +kernel, rfl⟩⟩
theorem r_12_takes_23 : RW M_X12_takes 23 .iadd 24 1 := ⟨by decide +kernel, rfl⟩
theorem r_12_takes_24 : RP M_X12_takes 24 12 45 27 := ⟨325, _, by decide +kernel, rfl, by decide, wd_f12_325, rfl, Or.inl rfl, rfl⟩
theorem r_12_takes_27 : RC M_X12_takes 27 1 28 := ⟨⟨by decide, by decide⟩, Or.inl ⟨by decide +kernel, rfl⟩⟩
theorem r_12_takes_28 : RW M_X12_takes 28 .ireturn 29 1 := ⟨by decide +kernel, rfl⟩
set_option maxRecDepth 10000 in
theorem sp_X4_work {l : Launch} {w : Wo} {d : Nat} {G : PH} {P : Option PV → PH → Prop} {c a b : Int} (hop : 0 ≤ rkOf c) (hP : P (some (vI (wk c a b))) G) : PW l w M_X4_work (d + 0) 0 [some (vI (c)), some (vI (a)), some (vI (b))] [] G P := by
  have hop2 : c = 124 ∨ c = 38 ∨ c = 60 ∨ c = 61 ∨ c = 62 ∨ c = 43 ∨ c = 45 ∨ c = 42 ∨ c = 47 := by unfold rkOf at hop; omega
  refine pw_iload r_4_work_0 rfl ?_
  refine pw_lswitch r_4_work_1 ?_
  refine pw_swt (fun h01 => ?_) (fun h01_38 => ?_)
  · skip
    refine pw_iload r_4_work_98 rfl ?_
    refine pw_if_eq r_4_work_99 (fun h99 => ?_) (fun h99 => ?_)
    · skip
      refine pw_const r_4_work_110 ?_
      refine pw_iret r_4_work_111 rfl (Nat.le_refl _) ⟨rfl, ?_⟩
      first | (exfalso; omega) | ((have e : wk c a b = 0 := by unfold wk; repeat (first | rw [if_pos (by omega)] | rw [if_neg (by omega)] | rw [b2i_t (by omega)] | rw [b2i_f (by omega)])); rw [e] at hP; exact hP)
    · skip
      refine pw_iload r_4_work_102 rfl ?_
      refine pw_if_eq r_4_work_103 (fun h103 => ?_) (fun h103 => ?_)
      · skip
        refine pw_const r_4_work_110 ?_
        refine pw_iret r_4_work_111 rfl (Nat.le_refl _) ⟨rfl, ?_⟩
        first | (exfalso; omega) | ((have e : wk c a b = 0 := by unfold wk; repeat (first | rw [if_pos (by omega)] | rw [if_neg (by omega)] | rw [b2i_t (by omega)] | rw [b2i_f (by omega)])); rw [e] at hP; exact hP)
      · skip
        refine pw_const r_4_work_106 ?_
        refine pw_goto r_4_work_107 ?_
        refine pw_iret r_4_work_111 rfl (Nat.le_refl _) ⟨rfl, ?_⟩
        first | (exfalso; omega) | ((have e : wk c a b = 1 := by unfold wk; repeat (first | rw [if_pos (by omega)] | rw [if_neg (by omega)] | rw [b2i_t (by omega)] | rw [b2i_f (by omega)])); rw [e] at hP; exact hP)
  refine pw_swt (fun h01 => ?_) (fun h01_42 => ?_)
  · skip
    refine pw_iload r_4_work_153 rfl ?_
    refine pw_iload r_4_work_154 rfl ?_
    refine pw_imulW r_4_work_155 ?_
    refine pw_iret r_4_work_156 rfl (Nat.le_refl _) ⟨rfl, ?_⟩
    first | (exfalso; omega) | ((have e : wk c a b = wr (a * b) := by unfold wk; repeat (first | rw [if_pos (by omega)] | rw [if_neg (by omega)] | rw [b2i_t (by omega)] | rw [b2i_f (by omega)])); rw [e] at hP; exact hP)
  refine pw_swt (fun h01 => ?_) (fun h01_43 => ?_)
  · skip
    refine pw_iload r_4_work_145 rfl ?_
    refine pw_iload r_4_work_146 rfl ?_
    refine pw_iaddW r_4_work_147 ?_
    refine pw_iret r_4_work_148 rfl (Nat.le_refl _) ⟨rfl, ?_⟩
    first | (exfalso; omega) | ((have e : wk c a b = wr (a + b) := by unfold wk; repeat (first | rw [if_pos (by omega)] | rw [if_neg (by omega)] | rw [b2i_t (by omega)] | rw [b2i_f (by omega)])); rw [e] at hP; exact hP)
  refine pw_swt (fun h01 => ?_) (fun h01_45 => ?_)
  · skip
    refine pw_iload r_4_work_149 rfl ?_
    refine pw_iload r_4_work_150 rfl ?_
    refine pw_isubW r_4_work_151 ?_
    refine pw_iret r_4_work_152 rfl (Nat.le_refl _) ⟨rfl, ?_⟩
    first | (exfalso; omega) | ((have e : wk c a b = wr (a - b) := by unfold wk; repeat (first | rw [if_pos (by omega)] | rw [if_neg (by omega)] | rw [b2i_t (by omega)] | rw [b2i_f (by omega)])); rw [e] at hP; exact hP)
  refine pw_swt (fun h01 => ?_) (fun h01_47 => ?_)
  · skip
    refine pw_iload r_4_work_157 rfl ?_
    refine pw_if_ne r_4_work_158 (fun h158 => ?_) (fun h158 => ?_)
    · skip
      refine pw_iload r_4_work_165 rfl ?_
      refine pw_iload r_4_work_166 rfl ?_
      refine pw_idiv r_4_work_167 (by omega) ?_
      refine pw_iret r_4_work_168 rfl (Nat.le_refl _) ⟨rfl, ?_⟩
      first | (exfalso; omega) | ((have e : wk c a b = pDiv (a) (b) := by unfold wk; repeat (first | rw [if_pos (by omega)] | rw [if_neg (by omega)] | rw [b2i_t (by omega)] | rw [b2i_f (by omega)])); rw [e] at hP; exact hP)
    · skip
      refine pw_const r_4_work_161 ?_
      refine pw_goto r_4_work_162 ?_
      refine pw_iret r_4_work_168 rfl (Nat.le_refl _) ⟨rfl, ?_⟩
      first | (exfalso; omega) | ((have e : wk c a b = 0 := by unfold wk; repeat (first | rw [if_pos (by omega)] | rw [if_neg (by omega)] | rw [b2i_t (by omega)] | rw [b2i_f (by omega)])); rw [e] at hP; exact hP)
  refine pw_swt (fun h01 => ?_) (fun h01_60 => ?_)
  · skip
    refine pw_iload r_4_work_112 rfl ?_
    refine pw_iload r_4_work_113 rfl ?_
    refine pw_icmp_ge r_4_work_114 (fun h114 => ?_) (fun h114 => ?_)
    · skip
      refine pw_const r_4_work_121 ?_
      refine pw_iret r_4_work_122 rfl (Nat.le_refl _) ⟨rfl, ?_⟩
      first | (exfalso; omega) | ((have e : wk c a b = 0 := by unfold wk; repeat (first | rw [if_pos (by omega)] | rw [if_neg (by omega)] | rw [b2i_t (by omega)] | rw [b2i_f (by omega)])); rw [e] at hP; exact hP)
    · skip
      refine pw_const r_4_work_117 ?_
      refine pw_goto r_4_work_118 ?_
      refine pw_iret r_4_work_122 rfl (Nat.le_refl _) ⟨rfl, ?_⟩
      first | (exfalso; omega) | ((have e : wk c a b = 1 := by unfold wk; repeat (first | rw [if_pos (by omega)] | rw [if_neg (by omega)] | rw [b2i_t (by omega)] | rw [b2i_f (by omega)])); rw [e] at hP; exact hP)
  refine pw_swt (fun h01 => ?_) (fun h01_61 => ?_)
  · skip
    refine pw_iload r_4_work_123 rfl ?_
    refine pw_iload r_4_work_124 rfl ?_
    refine pw_icmp_ne r_4_work_125 (fun h125 => ?_) (fun h125 => ?_)
    · skip
      refine pw_const r_4_work_132 ?_
      refine pw_iret r_4_work_133 rfl (Nat.le_refl _) ⟨rfl, ?_⟩
      first | (exfalso; omega) | ((have e : wk c a b = 0 := by unfold wk; repeat (first | rw [if_pos (by omega)] | rw [if_neg (by omega)] | rw [b2i_t (by omega)] | rw [b2i_f (by omega)])); rw [e] at hP; exact hP)
    · skip
      refine pw_const r_4_work_128 ?_
      refine pw_goto r_4_work_129 ?_
      refine pw_iret r_4_work_133 rfl (Nat.le_refl _) ⟨rfl, ?_⟩
      first | (exfalso; omega) | ((have e : wk c a b = 1 := by unfold wk; repeat (first | rw [if_pos (by omega)] | rw [if_neg (by omega)] | rw [b2i_t (by omega)] | rw [b2i_f (by omega)])); rw [e] at hP; exact hP)
  refine pw_swt (fun h01 => ?_) (fun h01_62 => ?_)
  · skip
    refine pw_iload r_4_work_134 rfl ?_
    refine pw_iload r_4_work_135 rfl ?_
    refine pw_icmp_le r_4_work_136 (fun h136 => ?_) (fun h136 => ?_)
    · skip
      refine pw_const r_4_work_143 ?_
      refine pw_iret r_4_work_144 rfl (Nat.le_refl _) ⟨rfl, ?_⟩
      first | (exfalso; omega) | ((have e : wk c a b = 0 := by unfold wk; repeat (first | rw [if_pos (by omega)] | rw [if_neg (by omega)] | rw [b2i_t (by omega)] | rw [b2i_f (by omega)])); rw [e] at hP; exact hP)
    · skip
      refine pw_const r_4_work_139 ?_
      refine pw_goto r_4_work_140 ?_
      refine pw_iret r_4_work_144 rfl (Nat.le_refl _) ⟨rfl, ?_⟩
      first | (exfalso; omega) | ((have e : wk c a b = 1 := by unfold wk; repeat (first | rw [if_pos (by omega)] | rw [if_neg (by omega)] | rw [b2i_t (by omega)] | rw [b2i_f (by omega)])); rw [e] at hP; exact hP)
  refine pw_swt (fun h01 => ?_) (fun h01_124 => ?_)
  · skip
    refine pw_iload r_4_work_84 rfl ?_
    refine pw_if_ne r_4_work_85 (fun h85 => ?_) (fun h85 => ?_)
    · skip
      refine pw_const r_4_work_92 ?_
      refine pw_goto r_4_work_93 ?_
      refine pw_iret r_4_work_97 rfl (Nat.le_refl _) ⟨rfl, ?_⟩
      first | (exfalso; omega) | ((have e : wk c a b = 1 := by unfold wk; repeat (first | rw [if_pos (by omega)] | rw [if_neg (by omega)] | rw [b2i_t (by omega)] | rw [b2i_f (by omega)])); rw [e] at hP; exact hP)
    · skip
      refine pw_iload r_4_work_88 rfl ?_
      refine pw_if_eq r_4_work_89 (fun h89 => ?_) (fun h89 => ?_)
      · skip
        refine pw_const r_4_work_96 ?_
        refine pw_iret r_4_work_97 rfl (Nat.le_refl _) ⟨rfl, ?_⟩
        first | (exfalso; omega) | ((have e : wk c a b = 0 := by unfold wk; repeat (first | rw [if_pos (by omega)] | rw [if_neg (by omega)] | rw [b2i_t (by omega)] | rw [b2i_f (by omega)])); rw [e] at hP; exact hP)
      · skip
        refine pw_const r_4_work_92 ?_
        refine pw_goto r_4_work_93 ?_
        refine pw_iret r_4_work_97 rfl (Nat.le_refl _) ⟨rfl, ?_⟩
        first | (exfalso; omega) | ((have e : wk c a b = 1 := by unfold wk; repeat (first | rw [if_pos (by omega)] | rw [if_neg (by omega)] | rw [b2i_t (by omega)] | rw [b2i_f (by omega)])); rw [e] at hP; exact hP)
  refine pw_swd ?_
  refine pw_const r_4_work_169 ?_
  refine pw_iret r_4_work_170 rfl (Nat.le_refl _) ⟨rfl, ?_⟩
  first | (exfalso; omega) | ((have e : wk c a b = 0 := by unfold wk; repeat (first | rw [if_pos (by omega)] | rw [if_neg (by omega)] | rw [b2i_t (by omega)] | rw [b2i_f (by omega)])); rw [e] at hP; exact hP)
set_option maxRecDepth 10000 in
theorem sp_X4_sign {l : Launch} {w : Wo} {d : Nat} {G : PH} {P : Option PV → PH → Prop} {cb : Nat} {rb : Int} (hby : gD G 4 0 3 = some (cb, rb)) (hsh : shp cb = (1, 160, 1)) (hen : 0 ≤ (gF G 4 0 4) ∧ (gF G 4 0 4) ≤ 160) (h1 : ¬ ((gF G 4 0 1) < 0 ∧ 0 ≤ (gF G 4 0 5) ∧ (gF G 4 0 5) < (gF G 4 0 4)) → P (some (vI (-1))) G) (h2 : ((gF G 4 0 1) < 0 ∧ 0 ≤ (gF G 4 0 5) ∧ (gF G 4 0 5) < (gF G 4 0 4)) → P (some (vI (pAnd (gA G cb rb ((gF G 4 0 5))) 255))) G) : PW l w M_X4_sign (d + 0) 0 [some (vR 4 (0))] [] G P := by
  refine pw_aload r_4_sign_0 rfl ?_
  refine pw_getI r_4_sign_1 fs_4_1 (by decide) ?_
  refine pw_if_ge r_4_sign_4 (fun h04 => ?_) (fun h04 => ?_)
  · skip
    refine pw_const r_4_sign_41 ?_
    refine pw_iret r_4_sign_42 rfl (Nat.le_refl _) ⟨rfl, ?_⟩
    first | exact h1 (by omega) | exact h2 ⟨by omega, by omega, by omega⟩
  · skip
    refine pw_aload r_4_sign_7 rfl ?_
    refine pw_getI r_4_sign_8 fs_4_5 (by decide) ?_
    refine pw_if_lt r_4_sign_11 (fun h11 => ?_) (fun h11 => ?_)
    · skip
      refine pw_const r_4_sign_41 ?_
      refine pw_iret r_4_sign_42 rfl (Nat.le_refl _) ⟨rfl, ?_⟩
      first | exact h1 (by omega) | exact h2 ⟨by omega, by omega, by omega⟩
    · skip
      refine pw_aload r_4_sign_14 rfl ?_
      refine pw_getI r_4_sign_15 fs_4_5 (by decide) ?_
      refine pw_aload r_4_sign_18 rfl ?_
      refine pw_getI r_4_sign_19 fs_4_4 (by decide) ?_
      refine pw_icmp_ge r_4_sign_22 (fun h22 => ?_) (fun h22 => ?_)
      · skip
        refine pw_const r_4_sign_41 ?_
        refine pw_iret r_4_sign_42 rfl (Nat.le_refl _) ⟨rfl, ?_⟩
        first | exact h1 (by omega) | exact h2 ⟨by omega, by omega, by omega⟩
      · skip
        refine pw_aload r_4_sign_25 rfl ?_
        refine pw_getBv r_4_sign_26 (by first | exact hby | (first | rfl | simp [gF_sF, gF_sA, gF_uA, gF_sD, gA_sF, gA_sA, gA_uA, gA_sD, gD_sF, gD_sA, gD_uA, gD_sD])) ?_
        refine pw_aload r_4_sign_29 rfl ?_
        refine pw_getI r_4_sign_30 fs_4_5 (by decide) ?_
        refine pw_bald r_4_sign_33 hsh (by omega) (by omega) ?_
        refine pw_const r_4_sign_34 ?_
        refine pw_iand r_4_sign_37 ?_
        refine pw_goto r_4_sign_38 ?_
        refine pw_iret r_4_sign_42 rfl (Nat.le_refl _) ⟨rfl, ?_⟩
        first | exact h1 (by omega) | exact h2 ⟨by omega, by omega, by omega⟩
set_option maxRecDepth 10000 in
theorem sp_X4_fail {l : Launch} {w : Wo} {d : Nat} {G : PH} {P : Option PV → PH → Prop} (h1 : 0 ≤ (gF G 4 0 1) → P none G) (h2 : (gF G 4 0 1) < 0 → P none (sF G 4 0 1 (gF G 4 0 5))) : PW l w M_X4_fail (d + 0) 0 [some (vR 4 (0))] [] G P := by
  refine pw_aload r_4_fail_0 rfl ?_
  refine pw_getI r_4_fail_1 fs_4_1 (by decide) ?_
  refine pw_if_ge r_4_fail_4 (fun h04 => ?_) (fun h04 => ?_)
  · skip
    refine pw_vret r_4_fail_15 rfl (Nat.le_refl _) ⟨rfl, ?_⟩
    first | exact h1 (by omega) | exact h2 (by omega)
  · skip
    refine pw_aload r_4_fail_7 rfl ?_
    refine pw_aload r_4_fail_8 rfl ?_
    refine pw_getI r_4_fail_9 fs_4_5 (by decide) ?_
    refine pw_putI r_4_fail_12 (by decide +kernel) fs_4_1 (by decide) ?_
    refine pw_vret r_4_fail_15 rfl (Nat.le_refl _) ⟨rfl, ?_⟩
    first | exact h1 (by omega) | exact h2 (by omega)
set_option maxRecDepth 10000 in
theorem sp_X4_rankOf {l : Launch} {w : Wo} {d : Nat} {G : PH} {P : Option PV → PH → Prop} {c : Int} (hP : P (some (vI (rkOf c))) G) : PW l w M_X4_rankOf (d + 0) 0 [some (vI (c))] [] G P := by
  refine pw_iload r_4_rankOf_0 rfl ?_
  refine pw_lswitch r_4_rankOf_1 ?_
  refine pw_swt (fun h01 => ?_) (fun h01_38 => ?_)
  · skip
    refine pw_const r_4_rankOf_86 ?_
    refine pw_iret r_4_rankOf_87 rfl (Nat.le_refl _) ⟨rfl, ?_⟩
    (have e : rkOf c = 1 := by unfold rkOf; repeat (first | rw [if_pos (by omega)] | rw [if_neg (by omega)])); rw [e] at hP; exact hP
  refine pw_swt (fun h01 => ?_) (fun h01_42 => ?_)
  · skip
    refine pw_const r_4_rankOf_92 ?_
    refine pw_iret r_4_rankOf_93 rfl (Nat.le_refl _) ⟨rfl, ?_⟩
    (have e : rkOf c = 4 := by unfold rkOf; repeat (first | rw [if_pos (by omega)] | rw [if_neg (by omega)])); rw [e] at hP; exact hP
  refine pw_swt (fun h01 => ?_) (fun h01_43 => ?_)
  · skip
    refine pw_const r_4_rankOf_90 ?_
    refine pw_iret r_4_rankOf_91 rfl (Nat.le_refl _) ⟨rfl, ?_⟩
    (have e : rkOf c = 3 := by unfold rkOf; repeat (first | rw [if_pos (by omega)] | rw [if_neg (by omega)])); rw [e] at hP; exact hP
  refine pw_swt (fun h01 => ?_) (fun h01_45 => ?_)
  · skip
    refine pw_const r_4_rankOf_90 ?_
    refine pw_iret r_4_rankOf_91 rfl (Nat.le_refl _) ⟨rfl, ?_⟩
    (have e : rkOf c = 3 := by unfold rkOf; repeat (first | rw [if_pos (by omega)] | rw [if_neg (by omega)])); rw [e] at hP; exact hP
  refine pw_swt (fun h01 => ?_) (fun h01_47 => ?_)
  · skip
    refine pw_const r_4_rankOf_92 ?_
    refine pw_iret r_4_rankOf_93 rfl (Nat.le_refl _) ⟨rfl, ?_⟩
    (have e : rkOf c = 4 := by unfold rkOf; repeat (first | rw [if_pos (by omega)] | rw [if_neg (by omega)])); rw [e] at hP; exact hP
  refine pw_swt (fun h01 => ?_) (fun h01_60 => ?_)
  · skip
    refine pw_const r_4_rankOf_88 ?_
    refine pw_iret r_4_rankOf_89 rfl (Nat.le_refl _) ⟨rfl, ?_⟩
    (have e : rkOf c = 2 := by unfold rkOf; repeat (first | rw [if_pos (by omega)] | rw [if_neg (by omega)])); rw [e] at hP; exact hP
  refine pw_swt (fun h01 => ?_) (fun h01_61 => ?_)
  · skip
    refine pw_const r_4_rankOf_88 ?_
    refine pw_iret r_4_rankOf_89 rfl (Nat.le_refl _) ⟨rfl, ?_⟩
    (have e : rkOf c = 2 := by unfold rkOf; repeat (first | rw [if_pos (by omega)] | rw [if_neg (by omega)])); rw [e] at hP; exact hP
  refine pw_swt (fun h01 => ?_) (fun h01_62 => ?_)
  · skip
    refine pw_const r_4_rankOf_88 ?_
    refine pw_iret r_4_rankOf_89 rfl (Nat.le_refl _) ⟨rfl, ?_⟩
    (have e : rkOf c = 2 := by unfold rkOf; repeat (first | rw [if_pos (by omega)] | rw [if_neg (by omega)])); rw [e] at hP; exact hP
  refine pw_swt (fun h01 => ?_) (fun h01_124 => ?_)
  · skip
    refine pw_const r_4_rankOf_84 ?_
    refine pw_iret r_4_rankOf_85 rfl (Nat.le_refl _) ⟨rfl, ?_⟩
    (have e : rkOf c = 0 := by unfold rkOf; repeat (first | rw [if_pos (by omega)] | rw [if_neg (by omega)])); rw [e] at hP; exact hP
  refine pw_swd ?_
  refine pw_const r_4_rankOf_94 ?_
  refine pw_iret r_4_rankOf_95 rfl (Nat.le_refl _) ⟨rfl, ?_⟩
  (have e : rkOf c = (-1) := by unfold rkOf; repeat (first | rw [if_pos (by omega)] | rw [if_neg (by omega)])); rw [e] at hP; exact hP
set_option maxRecDepth 10000 in
theorem sp_X12_nameOf {l : Launch} {w : Wo} {d : Nat} {G : PH} {P : Option PV → PH → Prop} {c : Int} (hP : P (some (vI (nmIx c))) G) : PW l w M_X12_nameOf (d + 0) 0 [some (vI (c))] [] G P := by
  refine pw_iload r_12_nameOf_0 rfl ?_
  refine pw_tswitch r_12_nameOf_1 ?_
  refine pw_swt (fun h01 => ?_) (fun h01_97 => ?_)
  · skip
    refine pw_const r_12_nameOf_124 ?_
    refine pw_iret r_12_nameOf_125 rfl (Nat.le_refl _) ⟨rfl, ?_⟩
    (have e : nmIx c = 4 := by unfold nmIx; repeat (first | rw [if_pos (by omega)] | rw [if_neg (by omega)])); rw [e] at hP; exact hP
  refine pw_swt (fun h01 => ?_) (fun h01_98 => ?_)
  · skip
    refine pw_const r_12_nameOf_128 ?_
    refine pw_iret r_12_nameOf_130 rfl (Nat.le_refl _) ⟨rfl, ?_⟩
    (have e : nmIx c = 6 := by unfold nmIx; repeat (first | rw [if_pos (by omega)] | rw [if_neg (by omega)])); rw [e] at hP; exact hP
  refine pw_swt (fun h01 => ?_) (fun h01_99 => ?_)
  · skip
    refine pw_const r_12_nameOf_131 ?_
    refine pw_iret r_12_nameOf_133 rfl (Nat.le_refl _) ⟨rfl, ?_⟩
    (have e : nmIx c = 7 := by unfold nmIx; repeat (first | rw [if_pos (by omega)] | rw [if_neg (by omega)])); rw [e] at hP; exact hP
  refine pw_swt (fun h01 => ?_) (fun h01_100 => ?_)
  · skip
    refine pw_const r_12_nameOf_126 ?_
    refine pw_iret r_12_nameOf_127 rfl (Nat.le_refl _) ⟨rfl, ?_⟩
    (have e : nmIx c = 5 := by unfold nmIx; repeat (first | rw [if_pos (by omega)] | rw [if_neg (by omega)])); rw [e] at hP; exact hP
  refine pw_swt (fun h01 => ?_) (fun h01_101 => ?_)
  · skip
    refine pw_const r_12_nameOf_137 ?_
    refine pw_iret r_12_nameOf_138 rfl (Nat.le_refl _) ⟨rfl, ?_⟩
    (have e : nmIx c = (-1) := by unfold nmIx; repeat (first | rw [if_pos (by omega)] | rw [if_neg (by omega)])); rw [e] at hP; exact hP
  refine pw_swt (fun h01 => ?_) (fun h01_102 => ?_)
  · skip
    refine pw_const r_12_nameOf_137 ?_
    refine pw_iret r_12_nameOf_138 rfl (Nat.le_refl _) ⟨rfl, ?_⟩
    (have e : nmIx c = (-1) := by unfold nmIx; repeat (first | rw [if_pos (by omega)] | rw [if_neg (by omega)])); rw [e] at hP; exact hP
  refine pw_swt (fun h01 => ?_) (fun h01_103 => ?_)
  · skip
    refine pw_const r_12_nameOf_118 ?_
    refine pw_iret r_12_nameOf_119 rfl (Nat.le_refl _) ⟨rfl, ?_⟩
    (have e : nmIx c = 1 := by unfold nmIx; repeat (first | rw [if_pos (by omega)] | rw [if_neg (by omega)])); rw [e] at hP; exact hP
  refine pw_swt (fun h01 => ?_) (fun h01_104 => ?_)
  · skip
    refine pw_const r_12_nameOf_137 ?_
    refine pw_iret r_12_nameOf_138 rfl (Nat.le_refl _) ⟨rfl, ?_⟩
    (have e : nmIx c = (-1) := by unfold nmIx; repeat (first | rw [if_pos (by omega)] | rw [if_neg (by omega)])); rw [e] at hP; exact hP
  refine pw_swt (fun h01 => ?_) (fun h01_105 => ?_)
  · skip
    refine pw_const r_12_nameOf_137 ?_
    refine pw_iret r_12_nameOf_138 rfl (Nat.le_refl _) ⟨rfl, ?_⟩
    (have e : nmIx c = (-1) := by unfold nmIx; repeat (first | rw [if_pos (by omega)] | rw [if_neg (by omega)])); rw [e] at hP; exact hP
  refine pw_swt (fun h01 => ?_) (fun h01_106 => ?_)
  · skip
    refine pw_const r_12_nameOf_137 ?_
    refine pw_iret r_12_nameOf_138 rfl (Nat.le_refl _) ⟨rfl, ?_⟩
    (have e : nmIx c = (-1) := by unfold nmIx; repeat (first | rw [if_pos (by omega)] | rw [if_neg (by omega)])); rw [e] at hP; exact hP
  refine pw_swt (fun h01 => ?_) (fun h01_107 => ?_)
  · skip
    refine pw_const r_12_nameOf_116 ?_
    refine pw_iret r_12_nameOf_117 rfl (Nat.le_refl _) ⟨rfl, ?_⟩
    (have e : nmIx c = 0 := by unfold nmIx; repeat (first | rw [if_pos (by omega)] | rw [if_neg (by omega)])); rw [e] at hP; exact hP
  refine pw_swt (fun h01 => ?_) (fun h01_108 => ?_)
  · skip
    refine pw_const r_12_nameOf_137 ?_
    refine pw_iret r_12_nameOf_138 rfl (Nat.le_refl _) ⟨rfl, ?_⟩
    (have e : nmIx c = (-1) := by unfold nmIx; repeat (first | rw [if_pos (by omega)] | rw [if_neg (by omega)])); rw [e] at hP; exact hP
  refine pw_swt (fun h01 => ?_) (fun h01_109 => ?_)
  · skip
    refine pw_const r_12_nameOf_137 ?_
    refine pw_iret r_12_nameOf_138 rfl (Nat.le_refl _) ⟨rfl, ?_⟩
    (have e : nmIx c = (-1) := by unfold nmIx; repeat (first | rw [if_pos (by omega)] | rw [if_neg (by omega)])); rw [e] at hP; exact hP
  refine pw_swt (fun h01 => ?_) (fun h01_110 => ?_)
  · skip
    refine pw_const r_12_nameOf_122 ?_
    refine pw_iret r_12_nameOf_123 rfl (Nat.le_refl _) ⟨rfl, ?_⟩
    (have e : nmIx c = 3 := by unfold nmIx; repeat (first | rw [if_pos (by omega)] | rw [if_neg (by omega)])); rw [e] at hP; exact hP
  refine pw_swt (fun h01 => ?_) (fun h01_111 => ?_)
  · skip
    refine pw_const r_12_nameOf_137 ?_
    refine pw_iret r_12_nameOf_138 rfl (Nat.le_refl _) ⟨rfl, ?_⟩
    (have e : nmIx c = (-1) := by unfold nmIx; repeat (first | rw [if_pos (by omega)] | rw [if_neg (by omega)])); rw [e] at hP; exact hP
  refine pw_swt (fun h01 => ?_) (fun h01_112 => ?_)
  · skip
    refine pw_const r_12_nameOf_137 ?_
    refine pw_iret r_12_nameOf_138 rfl (Nat.le_refl _) ⟨rfl, ?_⟩
    (have e : nmIx c = (-1) := by unfold nmIx; repeat (first | rw [if_pos (by omega)] | rw [if_neg (by omega)])); rw [e] at hP; exact hP
  refine pw_swt (fun h01 => ?_) (fun h01_113 => ?_)
  · skip
    refine pw_const r_12_nameOf_137 ?_
    refine pw_iret r_12_nameOf_138 rfl (Nat.le_refl _) ⟨rfl, ?_⟩
    (have e : nmIx c = (-1) := by unfold nmIx; repeat (first | rw [if_pos (by omega)] | rw [if_neg (by omega)])); rw [e] at hP; exact hP
  refine pw_swt (fun h01 => ?_) (fun h01_114 => ?_)
  · skip
    refine pw_const r_12_nameOf_137 ?_
    refine pw_iret r_12_nameOf_138 rfl (Nat.le_refl _) ⟨rfl, ?_⟩
    (have e : nmIx c = (-1) := by unfold nmIx; repeat (first | rw [if_pos (by omega)] | rw [if_neg (by omega)])); rw [e] at hP; exact hP
  refine pw_swt (fun h01 => ?_) (fun h01_115 => ?_)
  · skip
    refine pw_const r_12_nameOf_137 ?_
    refine pw_iret r_12_nameOf_138 rfl (Nat.le_refl _) ⟨rfl, ?_⟩
    (have e : nmIx c = (-1) := by unfold nmIx; repeat (first | rw [if_pos (by omega)] | rw [if_neg (by omega)])); rw [e] at hP; exact hP
  refine pw_swt (fun h01 => ?_) (fun h01_116 => ?_)
  · skip
    refine pw_const r_12_nameOf_134 ?_
    refine pw_iret r_12_nameOf_136 rfl (Nat.le_refl _) ⟨rfl, ?_⟩
    (have e : nmIx c = 8 := by unfold nmIx; repeat (first | rw [if_pos (by omega)] | rw [if_neg (by omega)])); rw [e] at hP; exact hP
  refine pw_swt (fun h01 => ?_) (fun h01_117 => ?_)
  · skip
    refine pw_const r_12_nameOf_137 ?_
    refine pw_iret r_12_nameOf_138 rfl (Nat.le_refl _) ⟨rfl, ?_⟩
    (have e : nmIx c = (-1) := by unfold nmIx; repeat (first | rw [if_pos (by omega)] | rw [if_neg (by omega)])); rw [e] at hP; exact hP
  refine pw_swt (fun h01 => ?_) (fun h01_118 => ?_)
  · skip
    refine pw_const r_12_nameOf_137 ?_
    refine pw_iret r_12_nameOf_138 rfl (Nat.le_refl _) ⟨rfl, ?_⟩
    (have e : nmIx c = (-1) := by unfold nmIx; repeat (first | rw [if_pos (by omega)] | rw [if_neg (by omega)])); rw [e] at hP; exact hP
  refine pw_swt (fun h01 => ?_) (fun h01_119 => ?_)
  · skip
    refine pw_const r_12_nameOf_137 ?_
    refine pw_iret r_12_nameOf_138 rfl (Nat.le_refl _) ⟨rfl, ?_⟩
    (have e : nmIx c = (-1) := by unfold nmIx; repeat (first | rw [if_pos (by omega)] | rw [if_neg (by omega)])); rw [e] at hP; exact hP
  refine pw_swt (fun h01 => ?_) (fun h01_120 => ?_)
  · skip
    refine pw_const r_12_nameOf_137 ?_
    refine pw_iret r_12_nameOf_138 rfl (Nat.le_refl _) ⟨rfl, ?_⟩
    (have e : nmIx c = (-1) := by unfold nmIx; repeat (first | rw [if_pos (by omega)] | rw [if_neg (by omega)])); rw [e] at hP; exact hP
  refine pw_swt (fun h01 => ?_) (fun h01_121 => ?_)
  · skip
    refine pw_const r_12_nameOf_120 ?_
    refine pw_iret r_12_nameOf_121 rfl (Nat.le_refl _) ⟨rfl, ?_⟩
    (have e : nmIx c = 2 := by unfold nmIx; repeat (first | rw [if_pos (by omega)] | rw [if_neg (by omega)])); rw [e] at hP; exact hP
  refine pw_swd ?_
  refine pw_const r_12_nameOf_137 ?_
  refine pw_iret r_12_nameOf_138 rfl (Nat.le_refl _) ⟨rfl, ?_⟩
  (have e : nmIx c = (-1) := by unfold nmIx; repeat (first | rw [if_pos (by omega)] | rw [if_neg (by omega)])); rw [e] at hP; exact hP
set_option maxRecDepth 10000 in
theorem sp_X12_wrong {l : Launch} {w : Wo} {d : Nat} {G : PH} {P : Option PV → PH → Prop} (hP : P (some (vI 0)) (sF G 12 0 47 (if (gF G 12 0 47) < 0 then (gF G 12 0 45) else (gF G 12 0 47)))) : PW l w M_X12_wrong (d + 0) 0 [some (vR 12 (0))] [] G P := by
  refine pw_aload r_12_wrong_0 rfl ?_
  refine pw_aload r_12_wrong_1 rfl ?_
  refine pw_getI r_12_wrong_2 fs_12_47 (by decide) ?_
  refine pw_if_ge r_12_wrong_5 (fun h05 => ?_) (fun h05 => ?_)
  · skip
    refine pw_aload r_12_wrong_15 rfl ?_
    refine pw_getI r_12_wrong_16 fs_12_47 (by decide) ?_
    refine pw_putI r_12_wrong_19 (by decide +kernel) fs_12_47 (by decide) ?_
    refine pw_const r_12_wrong_22 ?_
    refine pw_iret r_12_wrong_23 rfl (Nat.le_refl _) ⟨rfl, ?_⟩
    first | (rw [if_pos (by omega)] at hP; exact hP) | (rw [if_neg (by omega)] at hP; exact hP)
  · skip
    refine pw_aload r_12_wrong_8 rfl ?_
    refine pw_getI r_12_wrong_9 fs_12_45 (by decide) ?_
    refine pw_goto r_12_wrong_12 ?_
    refine pw_putI r_12_wrong_19 (by decide +kernel) fs_12_47 (by decide) ?_
    refine pw_const r_12_wrong_22 ?_
    refine pw_iret r_12_wrong_23 rfl (Nat.le_refl _) ⟨rfl, ?_⟩
    first | (rw [if_pos (by omega)] at hP; exact hP) | (rw [if_neg (by omega)] at hP; exact hP)
set_option maxRecDepth 10000 in
theorem sp_X12_byteAt {l : Launch} {w : Wo} {d : Nat} {G : PH} {P : Option PV → PH → Prop} (hat : 0 ≤ (gF G 12 0 45) ∧ (gF G 12 0 45) ≤ 161) (hes : 0 ≤ (gF G 12 0 46) ∧ (gF G 12 0 46) ≤ 160) (hba : (gF G 12 0 44) ≤ 3040) (hP : P (some (vI (mBy G))) G) : PW l w M_X12_byteAt (d + 0) 0 [some (vR 12 (0))] [] G P := by
  refine pw_aload r_12_byteAt_0 rfl ?_
  refine pw_getI r_12_byteAt_1 fs_12_45 (by decide) ?_
  refine pw_aload r_12_byteAt_4 rfl ?_
  refine pw_getI r_12_byteAt_5 fs_12_46 (by decide) ?_
  refine pw_icmp_ge r_12_byteAt_8 (fun h08 => ?_) (fun h08 => ?_)
  · skip
    refine pw_const r_12_byteAt_47 ?_
    refine pw_iret r_12_byteAt_48 rfl (Nat.le_refl _) ⟨rfl, ?_⟩
    first | (unfold mBy at hP; rw [if_pos (by omega), if_pos (by omega)] at hP; exact hP) | (unfold mBy at hP; rw [if_pos (by omega), if_neg (by omega)] at hP; exact hP) | (unfold mBy at hP; rw [if_neg (by omega)] at hP; exact hP)
  · skip
    refine pw_aload r_12_byteAt_11 rfl ?_
    refine pw_getI r_12_byteAt_12 fs_12_44 (by decide) ?_
    refine pw_if_ge r_12_byteAt_15 (fun h15 => ?_) (fun h15 => ?_)
    · skip
      refine pw_aload r_12_byteAt_30 rfl ?_
      refine pw_getR r_12_byteAt_31 fs_12_37 (by decide) ?_
      refine pw_aload r_12_byteAt_34 rfl ?_
      refine pw_getI r_12_byteAt_35 fs_12_44 (by decide) ?_
      refine pw_aload r_12_byteAt_38 rfl ?_
      refine pw_getI r_12_byteAt_39 fs_12_45 (by decide) ?_
      refine pw_iadd r_12_byteAt_42 (by omega) ?_
      refine pw_iald r_12_byteAt_43 sh229 (by omega) (by omega) ?_
      refine pw_goto r_12_byteAt_44 ?_
      refine pw_iret r_12_byteAt_48 rfl (Nat.le_refl _) ⟨rfl, ?_⟩
      first | (unfold mBy at hP; rw [if_pos (by omega), if_pos (by omega)] at hP; exact hP) | (unfold mBy at hP; rw [if_pos (by omega), if_neg (by omega)] at hP; exact hP) | (unfold mBy at hP; rw [if_neg (by omega)] at hP; exact hP)
    · skip
      refine pw_aload r_12_byteAt_18 rfl ?_
      refine pw_getR r_12_byteAt_19 fs_12_35 (by decide) ?_
      refine pw_aload r_12_byteAt_22 rfl ?_
      refine pw_getI r_12_byteAt_23 fs_12_45 (by decide) ?_
      refine pw_iald r_12_byteAt_26 sh228 (by omega) (by omega) ?_
      refine pw_goto r_12_byteAt_27 ?_
      refine pw_iret r_12_byteAt_48 rfl (Nat.le_refl _) ⟨rfl, ?_⟩
      first | (unfold mBy at hP; rw [if_pos (by omega), if_pos (by omega)] at hP; exact hP) | (unfold mBy at hP; rw [if_pos (by omega), if_neg (by omega)] at hP; exact hP) | (unfold mBy at hP; rw [if_neg (by omega)] at hP; exact hP)
set_option maxRecDepth 10000 in
theorem sp_X12_takes {l : Launch} {w : Wo} {d : Nat} {G : PH} {P : Option PV → PH → Prop} {c : Int} (hat : 0 ≤ (gF G 12 0 45) ∧ (gF G 12 0 45) ≤ 161) (hes : 0 ≤ (gF G 12 0 46) ∧ (gF G 12 0 46) ≤ 160) (hba : (gF G 12 0 44) ≤ 3040) (h1 : (0 ≤ (gF G 12 0 47) ∨ mBy G ≠ c) → P (some (vI 0)) G) (h2 : (gF G 12 0 47) < 0 → mBy G = c → P (some (vI 1)) (sF G 12 0 45 ((gF G 12 0 45) + 1))) : PW l w M_X12_takes (d + 1) 0 [some (vR 12 (0)), some (vI (c))] [] G P := by
  refine pw_aload r_12_takes_0 rfl ?_
  refine pw_getI r_12_takes_1 fs_12_47 (by decide) ?_
  refine pw_if_ge r_12_takes_4 (fun h04 => ?_) (fun h04 => ?_)
  · skip
    refine pw_const r_12_takes_15 ?_
    refine pw_zret r_12_takes_16 rfl (Or.inl rfl) (Nat.le_refl _) ⟨rfl, ?_⟩
    first | exact h1 (by omega) | exact h2 (by omega) (by omega)
  · skip
    refine pw_aload r_12_takes_7 rfl ?_
    refine pw_callV (av := []) (st := []) (ls0 := [some (vR 12 (0))]) r_12_takes_8 rfl rfl rfl (Nat.le_refl _) ?_
    refine sp_X12_byteAt (by first | assumption | exact hat | omega) (by first | assumption | exact hes | omega) (by first | assumption | exact hba | omega) ?_
    refine pw_iload r_12_takes_11 rfl ?_
    refine pw_icmp_eq r_12_takes_12 (fun h12 => ?_) (fun h12 => ?_)
    · skip
      refine pw_aload r_12_takes_17 rfl ?_
      refine pw_dup r_12_takes_18 rfl ?_
      refine pw_getI r_12_takes_19 fs_12_45 (by decide) ?_
      refine pw_const r_12_takes_22 ?_
      refine pw_iadd r_12_takes_23 (by omega) ?_
      refine pw_putI r_12_takes_24 (by decide +kernel) fs_12_45 (by decide) ?_
      refine pw_const r_12_takes_27 ?_
      refine pw_zret r_12_takes_28 rfl (Or.inr rfl) (Nat.le_refl _) ⟨rfl, ?_⟩
      first | exact h1 (by omega) | exact h2 (by omega) (by omega)
    · skip
      refine pw_const r_12_takes_15 ?_
      refine pw_zret r_12_takes_16 rfl (Or.inl rfl) (Nat.le_refl _) ⟨rfl, ?_⟩
      first | exact h1 (by omega) | exact h2 (by omega) (by omega)
