/-- a kind is that one, or under it -/
def Und (k t : Int) : Prop := k = t ∨ (t = 0 ∧ 0 ≤ k) ∨ (t = 1 ∧ 0 < k) ∨ (t = 4 ∧ k = 7)
theorem ab_is {z : Int} (h0 : 0 ≤ z) (h1 : z < 8) : (z = 0 ∧ abF z = -1) ∨ (z = 1 ∧ abF z = 0) ∨ (2 ≤ z ∧ z ≤ 6 ∧ abF z = 1) ∨ (z = 7 ∧ abF z = 4) := by
  rcases (show z = 0 ∨ z = 1 ∨ z = 2 ∨ z = 3 ∨ z = 4 ∨ z = 5 ∨ z = 6 ∨ z = 7 by omega) with e | e | e | e | e | e | e | e <;> subst e <;> decide
theorem und_step {z k : Int} (h0 : 0 ≤ z) (h1 : z < 8) (hk : 0 ≤ k ∧ k ≤ 7) (hn : z ≠ k) : Und z k ↔ (0 ≤ abF z ∧ Und (abF z) k) := by
  unfold Und
  rcases ab_is h0 h1 with ⟨a, b⟩ | ⟨a, b⟩ | ⟨a, a2, b⟩ | ⟨a, b⟩ <;> rw [b] <;> omega
theorem abv_is {z : Int} (h0 : 0 < z) (h1 : z ≤ 7) : (if z = 7 then (4 : Int) else if 1 < z then 1 else 0) = abF z := by
  rcases ab_is (show 0 ≤ z by omega) (by omega) with ⟨a, b⟩ | ⟨a, b⟩ | ⟨a, a2, b⟩ | ⟨a, b⟩ <;> rw [b] <;> split <;> (try split) <;> omega

theorem wd_m1_138 : Cond.methodLink "NameRolls$Crowd" 138 M_X2_isPoint.1 ∈ UW := UW3_at 219 (by decide +kernel) rfl
theorem wd_m1_141 : Cond.methodLink "NameRolls$Crowd" 141 M_X2_farFrom.1 ∈ UW := UW3_at 220 (by decide +kernel) rfl
theorem wd_m1_115 : Cond.methodLink "NameRolls$Crowd" 115 M_X1_hasStay.1 ∈ UW := UW3_at 138 (by decide +kernel) rfl
theorem wd_s1_hasStay : Cond.selects M_X1_hasStay.1.cls M_X1_hasStay.1 M_X1_hasStay.1 ∈ UW := UWp_at 9 (by decide +kernel) rfl
theorem wd_f1_102 : Cond.fieldLink "NameRolls$Crowd" 102 "NameRolls$Land" "sides" "[I" ∈ UW := UW1_at 37 (by decide +kernel) rfl
theorem wd_m1_112 : Cond.methodLink "NameRolls$Crowd" 112 M_X1_hasBed.1 ∈ UW := UW3_at 134 (by decide +kernel) rfl
theorem wd_s1_hasBed : Cond.selects M_X1_hasBed.1.cls M_X1_hasBed.1 M_X1_hasBed.1 ∈ UW := UWp_at 8 (by decide +kernel) rfl
theorem wd_m12_285 : Cond.methodLink "NameRollsModel" 285 M_X12_onTheWay.1 ∈ UW := UW8_at 215 (by decide +kernel) rfl
theorem wd_s12_onTheWay : Cond.selects M_X12_onTheWay.1.cls M_X12_onTheWay.1 M_X12_onTheWay.1 ∈ UW := UWp_at 65 (by decide +kernel) rfl
theorem wd_m12_281 : Cond.methodLink "NameRollsModel" 281 M_X12_inBeds.1 ∈ UW := UW8_at 211 (by decide +kernel) rfl
theorem wd_s12_inBeds : Cond.selects M_X12_inBeds.1.cls M_X12_inBeds.1 M_X12_inBeds.1 ∈ UW := UWp_at 64 (by decide +kernel) rfl
theorem wd_f3_15 : Cond.fieldLink "NameRolls$Person" 15 "NameRolls$Person" "kind" "I" ∈ UW := UW3_at 150 (by decide +kernel) rfl
theorem wd_f3_45 : Cond.fieldLink "NameRolls$Person" 45 "NameRolls$Person" "ABOVE" "[I" ∈ UW := UW6_at 230 (by decide +kernel) rfl
theorem wd_m1_201 : Cond.methodLink "NameRolls$Crowd" 201 M_X3_isUnder.1 ∈ UW := UW7_at 17 (by decide +kernel) rfl
theorem wd_s3_isUnder : Cond.selects M_X3_isUnder.1.cls M_X3_isUnder.1 M_X3_isUnder.1 ∈ UW := UW7_at 19 (by decide +kernel) rfl
theorem wd_m12_525 : Cond.methodLink "NameRollsModel" 525 M_X12_above.1 ∈ UW := UW10_at 93 (by decide +kernel) rfl
theorem wd_f11_252 : Cond.fieldLink "NameRolls" 252 "NameRolls$Land" "camps" "I" ∈ UW := UW1_at 41 (by decide +kernel) rfl
theorem wd_f11_21 : Cond.fieldLink "NameRolls" 21 "NameRolls" "crowd" "LNameRolls$Crowd;" ∈ UW := UW2_at 239 (by decide +kernel) rfl
theorem wd_f11_256 : Cond.fieldLink "NameRolls" 256 "NameRolls$Crowd" "size" "I" ∈ UW := UW1_at 70 (by decide +kernel) rfl
theorem wd_f11_259 : Cond.fieldLink "NameRolls" 259 "NameRolls$Crowd" "day" "I" ∈ UW := UW1_at 76 (by decide +kernel) rfl
theorem wd_f11_30 : Cond.fieldLink "NameRolls" 30 "NameRolls" "tidings" "LNameRolls$Tidings;" ∈ UW := UW3_at 0 (by decide +kernel) rfl
theorem wd_f11_262 : Cond.fieldLink "NameRolls" 262 "NameRolls$Tidings" "facts" "I" ∈ UW := UW1_at 137 (by decide +kernel) rfl
theorem wd_f11_265 : Cond.fieldLink "NameRolls" 265 "NameRolls$Tidings" "letters" "I" ∈ UW := UW1_at 139 (by decide +kernel) rfl
theorem wd_f11_268 : Cond.fieldLink "NameRolls" 268 "NameRolls$Tidings" "promises" "I" ∈ UW := UW1_at 141 (by decide +kernel) rfl
theorem wd_f11_39 : Cond.fieldLink "NameRolls" 39 "NameRolls" "texts" "LNameRolls$Texts;" ∈ UW := UW3_at 1 (by decide +kernel) rfl
theorem wd_f11_271 : Cond.fieldLink "NameRolls" 271 "NameRolls$Texts" "size" "I" ∈ UW := UW1_at 220 (by decide +kernel) rfl
theorem wd_f11_46 : Cond.fieldLink "NameRolls" 46 "NameRolls" "rolls" "LNameRolls$Rolls;" ∈ UW := UW3_at 2 (by decide +kernel) rfl
theorem wd_f11_272 : Cond.fieldLink "NameRolls" 272 "NameRolls$Rolls" "size" "I" ∈ UW := UW2_at 26 (by decide +kernel) rfl
theorem wd_f11_273 : Cond.fieldLink "NameRolls" 273 "NameRolls$Crowd" "stays" "I" ∈ UW := UW1_at 78 (by decide +kernel) rfl
theorem wd_f11_276 : Cond.fieldLink "NameRolls" 276 "NameRolls$Texts" "tapeSize" "I" ∈ UW := UW1_at 222 (by decide +kernel) rfl
theorem wd_m11_283 : Cond.methodLink "NameRolls" 283 M_X1_countState.1 ∈ UW := UW7_at 58 (by decide +kernel) rfl
theorem wd_s1_countState : Cond.selects M_X1_countState.1.cls M_X1_countState.1 M_X1_countState.1 ∈ UW := UW7_at 60 (by decide +kernel) rfl
theorem wd_f12_293 : Cond.fieldLink "NameRollsModel" 293 "NameRollsModel" "facts" "I" ∈ UW := UW7_at 95 (by decide +kernel) rfl
theorem wd_f12_296 : Cond.fieldLink "NameRollsModel" 296 "NameRollsModel" "letters" "I" ∈ UW := UW7_at 97 (by decide +kernel) rfl
theorem wd_f12_309 : Cond.fieldLink "NameRollsModel" 309 "NameRollsModel" "promises" "I" ∈ UW := UW7_at 102 (by decide +kernel) rfl
theorem wd_f12_376 : Cond.fieldLink "NameRollsModel" 376 "NameRollsModel" "texts" "I" ∈ UW := UW7_at 110 (by decide +kernel) rfl
theorem wd_f12_396 : Cond.fieldLink "NameRollsModel" 396 "NameRollsModel" "rows" "I" ∈ UW := UW7_at 123 (by decide +kernel) rfl
theorem wd_f12_322 : Cond.fieldLink "NameRollsModel" 322 "NameRollsModel" "tapeMany" "I" ∈ UW := UW7_at 104 (by decide +kernel) rfl
theorem r_1_send_0 : RA M_X1_send 0 0 1 := Or.inl ⟨0, by decide +kernel, rfl, rfl⟩
theorem r_1_send_1 : RL M_X1_send 1 1 2 := Or.inl ⟨1, by decide +kernel, rfl, rfl⟩
theorem r_1_send_2 : RKv M_X1_send M_X1_get 2 1 1 5 := ⟨125, by decide +kernel, wd_m1_125, ok_M_X1_get, wd_s1_get, rfl⟩
theorem r_1_send_5 : RT M_X1_send 5 3 6 := ⟨by decide, Or.inl ⟨3, by decide +kernel, rfl, rfl⟩⟩
theorem r_1_send_6 : RA M_X1_send 6 3 7 := Or.inl ⟨3, by decide +kernel, rfl, rfl⟩
theorem r_1_send_7 : RB M_X1_send 7 .ifnull 21 10 := ⟨14, by decide +kernel, rfl, rfl⟩
theorem r_1_send_21 : RC M_X1_send 21 (-1) 22 := ⟨⟨by decide, by decide⟩, Or.inl ⟨by decide +kernel, rfl⟩⟩
theorem r_1_send_22 : RW M_X1_send 22 .ireturn 23 1 := ⟨by decide +kernel, rfl⟩
theorem r_1_send_10 : RA M_X1_send 10 0 11 := Or.inl ⟨0, by decide +kernel, rfl, rfl⟩
theorem r_1_send_11 : RG M_X1_send 11 1 4 14 := ⟨48, _, by decide +kernel, rfl, by decide, wd_f1_48, rfl, rfl⟩
theorem r_1_send_14 : RL M_X1_send 14 2 15 := Or.inl ⟨2, by decide +kernel, rfl, rfl⟩
theorem r_1_send_15 : RKv M_X1_send M_X2_isPoint 15 1 2 18 := ⟨138, by decide +kernel, wd_m1_138, ok_M_X2_isPoint, wd_s2_isPoint, rfl⟩
theorem r_1_send_18 : RB M_X1_send 18 (.ifCond .ne) 23 21 := ⟨5, by decide +kernel, rfl, rfl⟩
theorem r_1_send_23 : RA M_X1_send 23 0 24 := Or.inl ⟨0, by decide +kernel, rfl, rfl⟩
theorem r_1_send_24 : RG M_X1_send 24 1 4 27 := ⟨48, _, by decide +kernel, rfl, by decide, wd_f1_48, rfl, rfl⟩
theorem r_1_send_27 : RL M_X1_send 27 2 28 := Or.inl ⟨2, by decide +kernel, rfl, rfl⟩
theorem r_1_send_28 : RKv M_X1_send M_X2_isCamp 28 1 2 31 := ⟨98, by decide +kernel, wd_m1_98, ok_M_X2_isCamp, wd_s2_isCamp, rfl⟩
theorem r_1_send_31 : RS M_X1_send 31 4 33 := ⟨by decide, Or.inr ⟨by decide +kernel, rfl⟩⟩
theorem r_1_send_33 : RA M_X1_send 33 3 34 := Or.inl ⟨3, by decide +kernel, rfl, rfl⟩
theorem r_1_send_34 : RG M_X1_send 34 3 8 37 := ⟨70, _, by decide +kernel, rfl, by decide, wd_f1_70, rfl, rfl⟩
theorem r_1_send_37 : RB M_X1_send 37 (.ifCond .ne) 48 40 := ⟨11, by decide +kernel, rfl, rfl⟩
theorem r_1_send_48 : RC M_X1_send 48 (-3) 50 := ⟨⟨by decide, by decide⟩, Or.inr (Or.inl ⟨by decide +kernel, by decide, rfl⟩)⟩
theorem r_1_send_50 : RW M_X1_send 50 .ireturn 51 1 := ⟨by decide +kernel, rfl⟩
theorem r_1_send_40 : RA M_X1_send 40 3 41 := Or.inl ⟨3, by decide +kernel, rfl, rfl⟩
theorem r_1_send_41 : RG M_X1_send 41 3 10 44 := ⟨76, _, by decide +kernel, rfl, by decide, wd_f1_76, rfl, rfl⟩
theorem r_1_send_44 : RL M_X1_send 44 2 45 := Or.inl ⟨2, by decide +kernel, rfl, rfl⟩
theorem r_1_send_45 : RB M_X1_send 45 (.if_icmp .ne) 51 48 := ⟨6, by decide +kernel, rfl, rfl⟩
theorem r_1_send_51 : RL M_X1_send 51 4 53 := Or.inr ⟨by decide +kernel, rfl⟩
theorem r_1_send_53 : RB M_X1_send 53 (.ifCond .eq) 83 56 := ⟨30, by decide +kernel, rfl, rfl⟩
theorem r_1_send_83 : RA M_X1_send 83 0 84 := Or.inl ⟨0, by decide +kernel, rfl, rfl⟩
theorem r_1_send_84 : RG M_X1_send 84 1 4 87 := ⟨48, _, by decide +kernel, rfl, by decide, wd_f1_48, rfl, rfl⟩
theorem r_1_send_87 : RA M_X1_send 87 3 88 := Or.inl ⟨3, by decide +kernel, rfl, rfl⟩
theorem r_1_send_88 : RG M_X1_send 88 3 10 91 := ⟨76, _, by decide +kernel, rfl, by decide, wd_f1_76, rfl, rfl⟩
theorem r_1_send_91 : RL M_X1_send 91 2 92 := Or.inl ⟨2, by decide +kernel, rfl, rfl⟩
theorem r_1_send_92 : RKv M_X1_send M_X2_farFrom 92 2 2 95 := ⟨141, by decide +kernel, wd_m1_141, ok_M_X2_farFrom, wd_s2_farFrom, rfl⟩
theorem r_1_send_95 : RS M_X1_send 95 5 97 := ⟨by decide, Or.inr ⟨by decide +kernel, rfl⟩⟩
theorem r_1_send_97 : RL M_X1_send 97 5 99 := Or.inr ⟨by decide +kernel, rfl⟩
theorem r_1_send_99 : RB M_X1_send 99 (.ifCond .ge) 105 102 := ⟨6, by decide +kernel, rfl, rfl⟩
theorem r_1_send_105 : RL M_X1_send 105 4 107 := Or.inr ⟨by decide +kernel, rfl⟩
theorem r_1_send_107 : RB M_X1_send 107 (.ifCond .eq) 120 110 := ⟨13, by decide +kernel, rfl, rfl⟩
theorem r_1_send_120 : RA M_X1_send 120 0 121 := Or.inl ⟨0, by decide +kernel, rfl, rfl⟩
theorem r_1_send_121 : RA M_X1_send 121 3 122 := Or.inl ⟨3, by decide +kernel, rfl, rfl⟩
theorem r_1_send_122 : RC M_X1_send 122 1 123 := ⟨⟨by decide, by decide⟩, Or.inl ⟨by decide +kernel, rfl⟩⟩
theorem r_1_send_123 : RKv M_X1_send M_X1_leave 123 2 1 126 := ⟨94, by decide +kernel, wd_m1_94, ok_M_X1_leave, wd_s1_leave, rfl⟩
theorem r_1_send_126 : RA M_X1_send 126 3 127 := Or.inl ⟨3, by decide +kernel, rfl, rfl⟩
theorem r_1_send_127 : RL M_X1_send 127 2 128 := Or.inl ⟨2, by decide +kernel, rfl, rfl⟩
theorem r_1_send_128 : RP M_X1_send 128 3 10 131 := ⟨76, _, by decide +kernel, rfl, by decide, wd_f1_76, rfl, Or.inl rfl, rfl⟩
theorem r_1_send_131 : RA M_X1_send 131 3 132 := Or.inl ⟨3, by decide +kernel, rfl, rfl⟩
theorem r_1_send_132 : RA M_X1_send 132 0 133 := Or.inl ⟨0, by decide +kernel, rfl, rfl⟩
theorem r_1_send_133 : RG M_X1_send 133 1 2 136 := ⟨60, _, by decide +kernel, rfl, by decide, wd_f1_60, rfl, rfl⟩
theorem r_1_send_136 : RL M_X1_send 136 5 138 := Or.inr ⟨by decide +kernel, rfl⟩
theorem r_1_send_138 : RW M_X1_send 138 .iadd 139 1 := ⟨by decide +kernel, rfl⟩
theorem r_1_send_139 : RP M_X1_send 139 3 11 142 := ⟨73, _, by decide +kernel, rfl, by decide, wd_f1_73, rfl, Or.inl rfl, rfl⟩
theorem r_1_send_142 : RA M_X1_send 142 3 143 := Or.inl ⟨3, by decide +kernel, rfl, rfl⟩
theorem r_1_send_143 : RG M_X1_send 143 3 11 146 := ⟨73, _, by decide +kernel, rfl, by decide, wd_f1_73, rfl, rfl⟩
theorem r_1_send_146 : RW M_X1_send 146 .ireturn 147 1 := ⟨by decide +kernel, rfl⟩
theorem r_1_send_110 : RA M_X1_send 110 0 111 := Or.inl ⟨0, by decide +kernel, rfl, rfl⟩
theorem r_1_send_111 : RKv M_X1_send M_X1_hasStay 111 0 1 114 := ⟨115, by decide +kernel, wd_m1_115, ok_M_X1_hasStay, wd_s1_hasStay, rfl⟩
theorem r_1_send_114 : RB M_X1_send 114 (.ifCond .ne) 120 117 := ⟨6, by decide +kernel, rfl, rfl⟩
theorem r_1_send_117 : RC M_X1_send 117 (-2) 119 := ⟨⟨by decide, by decide⟩, Or.inr (Or.inl ⟨by decide +kernel, by decide, rfl⟩)⟩
theorem r_1_send_119 : RW M_X1_send 119 .ireturn 120 1 := ⟨by decide +kernel, rfl⟩
theorem r_1_send_102 : RC M_X1_send 102 (-4) 104 := ⟨⟨by decide, by decide⟩, Or.inr (Or.inl ⟨by decide +kernel, by decide, rfl⟩)⟩
theorem r_1_send_104 : RW M_X1_send 104 .ireturn 105 1 := ⟨by decide +kernel, rfl⟩
theorem r_1_send_56 : RA M_X1_send 56 0 57 := Or.inl ⟨0, by decide +kernel, rfl, rfl⟩
theorem r_1_send_57 : RG M_X1_send 57 1 4 60 := ⟨48, _, by decide +kernel, rfl, by decide, wd_f1_48, rfl, rfl⟩
theorem r_1_send_60 : RG M_X1_send 60 2 0 63 := ⟨102, _, by decide +kernel, rfl, by decide, wd_f1_102, rfl, rfl⟩
theorem r_1_send_63 : RL M_X1_send 63 2 64 := Or.inl ⟨2, by decide +kernel, rfl, rfl⟩
theorem r_1_send_64 : RW M_X1_send 64 .iaload 65 1 := ⟨by decide +kernel, rfl⟩
theorem r_1_send_65 : RA M_X1_send 65 3 66 := Or.inl ⟨3, by decide +kernel, rfl, rfl⟩
theorem r_1_send_66 : RG M_X1_send 66 3 2 69 := ⟨129, _, by decide +kernel, rfl, by decide, wd_f1_129, rfl, rfl⟩
theorem r_1_send_69 : RB M_X1_send 69 (.if_icmp .ne) 80 72 := ⟨11, by decide +kernel, rfl, rfl⟩
theorem r_1_send_80 : RC M_X1_send 80 (-3) 82 := ⟨⟨by decide, by decide⟩, Or.inr (Or.inl ⟨by decide +kernel, by decide, rfl⟩)⟩
theorem r_1_send_82 : RW M_X1_send 82 .ireturn 83 1 := ⟨by decide +kernel, rfl⟩
theorem r_1_send_72 : RA M_X1_send 72 0 73 := Or.inl ⟨0, by decide +kernel, rfl, rfl⟩
theorem r_1_send_73 : RL M_X1_send 73 2 74 := Or.inl ⟨2, by decide +kernel, rfl, rfl⟩
theorem r_1_send_74 : RKv M_X1_send M_X1_hasBed 74 1 1 77 := ⟨112, by decide +kernel, wd_m1_112, ok_M_X1_hasBed, wd_s1_hasBed, rfl⟩
theorem r_1_send_77 : RB M_X1_send 77 (.ifCond .ne) 83 80 := ⟨6, by decide +kernel, rfl, rfl⟩
theorem r_12_move_0 : RA M_X12_move 0 0 1 := Or.inl ⟨0, by decide +kernel, rfl, rfl⟩
theorem r_12_move_1 : RL M_X12_move 1 1 2 := Or.inl ⟨1, by decide +kernel, rfl, rfl⟩
theorem r_12_move_2 : RKv M_X12_move M_X12_isPerson 2 1 12 5 := ⟨278, by decide +kernel, wd_m12_278, ok_M_X12_isPerson, wd_s12_isPerson, rfl⟩
theorem r_12_move_5 : RB M_X12_move 5 (.ifCond .eq) 16 8 := ⟨11, by decide +kernel, rfl, rfl⟩
theorem r_12_move_16 : RC M_X12_move 16 (-1) 17 := ⟨⟨by decide, by decide⟩, Or.inl ⟨by decide +kernel, rfl⟩⟩
theorem r_12_move_17 : RW M_X12_move 17 .ireturn 18 1 := ⟨by decide +kernel, rfl⟩
theorem r_12_move_8 : RA M_X12_move 8 0 9 := Or.inl ⟨0, by decide +kernel, rfl, rfl⟩
theorem r_12_move_9 : RL M_X12_move 9 2 10 := Or.inl ⟨2, by decide +kernel, rfl, rfl⟩
theorem r_12_move_10 : RKv M_X12_move M_X12_isPoint 10 1 12 13 := ⟨257, by decide +kernel, wd_m12_257, ok_M_X12_isPoint, wd_s12_isPoint, rfl⟩
theorem r_12_move_13 : RB M_X12_move 13 (.ifCond .ne) 18 16 := ⟨5, by decide +kernel, rfl, rfl⟩
theorem r_12_move_18 : RA M_X12_move 18 0 19 := Or.inl ⟨0, by decide +kernel, rfl, rfl⟩
theorem r_12_move_19 : RG M_X12_move 19 12 8 22 := ⟨28, _, by decide +kernel, rfl, by decide, wd_f12_28, rfl, rfl⟩
theorem r_12_move_22 : RL M_X12_move 22 1 23 := Or.inl ⟨1, by decide +kernel, rfl, rfl⟩
theorem r_12_move_23 : RW M_X12_move 23 .iaload 24 1 := ⟨by decide +kernel, rfl⟩
theorem r_12_move_24 : RB M_X12_move 24 (.ifCond .ne) 72 27 := ⟨48, by decide +kernel, rfl, rfl⟩
theorem r_12_move_72 : RC M_X12_move 72 (-3) 74 := ⟨⟨by decide, by decide⟩, Or.inr (Or.inl ⟨by decide +kernel, by decide, rfl⟩)⟩
theorem r_12_move_74 : RW M_X12_move 74 .ireturn 75 1 := ⟨by decide +kernel, rfl⟩
theorem r_12_move_27 : RA M_X12_move 27 0 28 := Or.inl ⟨0, by decide +kernel, rfl, rfl⟩
theorem r_12_move_28 : RG M_X12_move 28 12 9 31 := ⟨31, _, by decide +kernel, rfl, by decide, wd_f12_31, rfl, rfl⟩
theorem r_12_move_31 : RL M_X12_move 31 1 32 := Or.inl ⟨1, by decide +kernel, rfl, rfl⟩
theorem r_12_move_32 : RW M_X12_move 32 .iaload 33 1 := ⟨by decide +kernel, rfl⟩
theorem r_12_move_33 : RL M_X12_move 33 2 34 := Or.inl ⟨2, by decide +kernel, rfl, rfl⟩
theorem r_12_move_34 : RB M_X12_move 34 (.if_icmp .eq) 72 37 := ⟨38, by decide +kernel, rfl, rfl⟩
theorem r_12_move_37 : RL M_X12_move 37 2 38 := Or.inl ⟨2, by decide +kernel, rfl, rfl⟩
theorem r_12_move_38 : RC M_X12_move 38 16 40 := ⟨⟨by decide, by decide⟩, Or.inr (Or.inl ⟨by decide +kernel, by decide, rfl⟩)⟩
theorem r_12_move_40 : RB M_X12_move 40 (.if_icmp .ge) 75 43 := ⟨35, by decide +kernel, rfl, rfl⟩
theorem r_12_move_75 : RA M_X12_move 75 0 76 := Or.inl ⟨0, by decide +kernel, rfl, rfl⟩
theorem r_12_move_76 : RA M_X12_move 76 0 77 := Or.inl ⟨0, by decide +kernel, rfl, rfl⟩
theorem r_12_move_77 : RG M_X12_move 77 12 9 80 := ⟨31, _, by decide +kernel, rfl, by decide, wd_f12_31, rfl, rfl⟩
theorem r_12_move_80 : RL M_X12_move 80 1 81 := Or.inl ⟨1, by decide +kernel, rfl, rfl⟩
theorem r_12_move_81 : RW M_X12_move 81 .iaload 82 1 := ⟨by decide +kernel, rfl⟩
theorem r_12_move_82 : RL M_X12_move 82 2 83 := Or.inl ⟨2, by decide +kernel, rfl, rfl⟩
theorem r_12_move_83 : RKv M_X12_move M_X12_farOf 83 2 12 86 := ⟨261, by decide +kernel, wd_m12_261, ok_M_X12_farOf, wd_s12_farOf, rfl⟩
theorem r_12_move_86 : RS M_X12_move 86 3 87 := ⟨by decide, Or.inl ⟨3, by decide +kernel, rfl, rfl⟩⟩
theorem r_12_move_87 : RL M_X12_move 87 3 88 := Or.inl ⟨3, by decide +kernel, rfl, rfl⟩
theorem r_12_move_88 : RC M_X12_move 88 100000 91 := ⟨⟨by decide, by decide⟩, Or.inr (Or.inr (Or.inr (Or.inr ⟨260, by decide +kernel, wd_c12_260, rfl⟩)))⟩
theorem r_12_move_91 : RB M_X12_move 91 (.if_icmp .lt) 97 94 := ⟨6, by decide +kernel, rfl, rfl⟩
theorem r_12_move_97 : RL M_X12_move 97 2 98 := Or.inl ⟨2, by decide +kernel, rfl, rfl⟩
theorem r_12_move_98 : RC M_X12_move 98 16 100 := ⟨⟨by decide, by decide⟩, Or.inr (Or.inl ⟨by decide +kernel, by decide, rfl⟩)⟩
theorem r_12_move_100 : RB M_X12_move 100 (.if_icmp .ge) 121 103 := ⟨21, by decide +kernel, rfl, rfl⟩
theorem r_12_move_121 : RA M_X12_move 121 0 122 := Or.inl ⟨0, by decide +kernel, rfl, rfl⟩
theorem r_12_move_122 : RL M_X12_move 122 1 123 := Or.inl ⟨1, by decide +kernel, rfl, rfl⟩
theorem r_12_move_123 : RC M_X12_move 123 1 124 := ⟨⟨by decide, by decide⟩, Or.inl ⟨by decide +kernel, rfl⟩⟩
theorem r_12_move_124 : RKv M_X12_move M_X12_becomes 124 2 12 127 := ⟨275, by decide +kernel, wd_m12_275, ok_M_X12_becomes, wd_s12_becomes, rfl⟩
theorem r_12_move_127 : RA M_X12_move 127 0 128 := Or.inl ⟨0, by decide +kernel, rfl, rfl⟩
theorem r_12_move_128 : RG M_X12_move 128 12 9 131 := ⟨31, _, by decide +kernel, rfl, by decide, wd_f12_31, rfl, rfl⟩
theorem r_12_move_131 : RL M_X12_move 131 1 132 := Or.inl ⟨1, by decide +kernel, rfl, rfl⟩
theorem r_12_move_132 : RL M_X12_move 132 2 133 := Or.inl ⟨2, by decide +kernel, rfl, rfl⟩
theorem r_12_move_133 : RW M_X12_move 133 .iastore 134 1 := ⟨by decide +kernel, rfl⟩
theorem r_12_move_134 : RA M_X12_move 134 0 135 := Or.inl ⟨0, by decide +kernel, rfl, rfl⟩
theorem r_12_move_135 : RG M_X12_move 135 12 16 138 := ⟨52, _, by decide +kernel, rfl, by decide, wd_f12_52, rfl, rfl⟩
theorem r_12_move_138 : RL M_X12_move 138 1 139 := Or.inl ⟨1, by decide +kernel, rfl, rfl⟩
theorem r_12_move_139 : RA M_X12_move 139 0 140 := Or.inl ⟨0, by decide +kernel, rfl, rfl⟩
theorem r_12_move_140 : RG M_X12_move 140 12 0 143 := ⟨268, _, by decide +kernel, rfl, by decide, wd_f12_268, rfl, rfl⟩
theorem r_12_move_143 : RL M_X12_move 143 3 144 := Or.inl ⟨3, by decide +kernel, rfl, rfl⟩
theorem r_12_move_144 : RW M_X12_move 144 .iadd 145 1 := ⟨by decide +kernel, rfl⟩
theorem r_12_move_145 : RW M_X12_move 145 .iastore 146 1 := ⟨by decide +kernel, rfl⟩
theorem r_12_move_146 : RA M_X12_move 146 0 147 := Or.inl ⟨0, by decide +kernel, rfl, rfl⟩
theorem r_12_move_147 : RG M_X12_move 147 12 16 150 := ⟨52, _, by decide +kernel, rfl, by decide, wd_f12_52, rfl, rfl⟩
theorem r_12_move_150 : RL M_X12_move 150 1 151 := Or.inl ⟨1, by decide +kernel, rfl, rfl⟩
theorem r_12_move_151 : RW M_X12_move 151 .iaload 152 1 := ⟨by decide +kernel, rfl⟩
theorem r_12_move_152 : RW M_X12_move 152 .ireturn 153 1 := ⟨by decide +kernel, rfl⟩
theorem r_12_move_103 : RA M_X12_move 103 0 104 := Or.inl ⟨0, by decide +kernel, rfl, rfl⟩
theorem r_12_move_104 : RG M_X12_move 104 12 22 107 := ⟨265, _, by decide +kernel, rfl, by decide, wd_f12_265, rfl, rfl⟩
theorem r_12_move_107 : RA M_X12_move 107 0 108 := Or.inl ⟨0, by decide +kernel, rfl, rfl⟩
theorem r_12_move_108 : RKv M_X12_move M_X12_onTheWay 108 0 12 111 := ⟨285, by decide +kernel, wd_m12_285, ok_M_X12_onTheWay, wd_s12_onTheWay, rfl⟩
theorem r_12_move_111 : RW M_X12_move 111 .iadd 112 1 := ⟨by decide +kernel, rfl⟩
theorem r_12_move_112 : RC M_X12_move 112 400 115 := ⟨⟨by decide, by decide⟩, Or.inr (Or.inr (Or.inl ⟨by decide +kernel, by decide, rfl⟩))⟩
theorem r_12_move_115 : RB M_X12_move 115 (.if_icmp .ne) 121 118 := ⟨6, by decide +kernel, rfl, rfl⟩
theorem r_12_move_118 : RC M_X12_move 118 (-2) 120 := ⟨⟨by decide, by decide⟩, Or.inr (Or.inl ⟨by decide +kernel, by decide, rfl⟩)⟩
theorem r_12_move_120 : RW M_X12_move 120 .ireturn 121 1 := ⟨by decide +kernel, rfl⟩
theorem r_12_move_94 : RC M_X12_move 94 (-4) 96 := ⟨⟨by decide, by decide⟩, Or.inr (Or.inl ⟨by decide +kernel, by decide, rfl⟩)⟩
theorem r_12_move_96 : RW M_X12_move 96 .ireturn 97 1 := ⟨by decide +kernel, rfl⟩
theorem r_12_move_43 : RA M_X12_move 43 0 44 := Or.inl ⟨0, by decide +kernel, rfl, rfl⟩
theorem r_12_move_44 : RG M_X12_move 44 12 1 47 := ⟨9, _, by decide +kernel, rfl, by decide, wd_f12_9, rfl, rfl⟩
theorem r_12_move_47 : RL M_X12_move 47 2 48 := Or.inl ⟨2, by decide +kernel, rfl, rfl⟩
theorem r_12_move_48 : RW M_X12_move 48 .iaload 49 1 := ⟨by decide +kernel, rfl⟩
theorem r_12_move_49 : RA M_X12_move 49 0 50 := Or.inl ⟨0, by decide +kernel, rfl, rfl⟩
theorem r_12_move_50 : RG M_X12_move 50 12 7 53 := ⟨25, _, by decide +kernel, rfl, by decide, wd_f12_25, rfl, rfl⟩
theorem r_12_move_53 : RL M_X12_move 53 1 54 := Or.inl ⟨1, by decide +kernel, rfl, rfl⟩
theorem r_12_move_54 : RW M_X12_move 54 .iaload 55 1 := ⟨by decide +kernel, rfl⟩
theorem r_12_move_55 : RB M_X12_move 55 (.if_icmp .ne) 72 58 := ⟨17, by decide +kernel, rfl, rfl⟩
theorem r_12_move_58 : RA M_X12_move 58 0 59 := Or.inl ⟨0, by decide +kernel, rfl, rfl⟩
theorem r_12_move_59 : RL M_X12_move 59 2 60 := Or.inl ⟨2, by decide +kernel, rfl, rfl⟩
theorem r_12_move_60 : RKv M_X12_move M_X12_inBeds 60 1 12 63 := ⟨281, by decide +kernel, wd_m12_281, ok_M_X12_inBeds, wd_s12_inBeds, rfl⟩
theorem r_12_move_63 : RA M_X12_move 63 0 64 := Or.inl ⟨0, by decide +kernel, rfl, rfl⟩
theorem r_12_move_64 : RG M_X12_move 64 12 2 67 := ⟨13, _, by decide +kernel, rfl, by decide, wd_f12_13, rfl, rfl⟩
theorem r_12_move_67 : RL M_X12_move 67 2 68 := Or.inl ⟨2, by decide +kernel, rfl, rfl⟩
theorem r_12_move_68 : RW M_X12_move 68 .iaload 69 1 := ⟨by decide +kernel, rfl⟩
theorem r_12_move_69 : RB M_X12_move 69 (.if_icmp .lt) 75 72 := ⟨6, by decide +kernel, rfl, rfl⟩
theorem r_3_isUnder_0 : RA M_X3_isUnder 0 0 1 := Or.inl ⟨0, by decide +kernel, rfl, rfl⟩
theorem r_3_isUnder_1 : RG M_X3_isUnder 1 3 1 4 := ⟨15, _, by decide +kernel, rfl, by decide, wd_f3_15, rfl, rfl⟩
theorem r_3_isUnder_4 : RS M_X3_isUnder 4 2 5 := ⟨by decide, Or.inl ⟨2, by decide +kernel, rfl, rfl⟩⟩
theorem r_3_isUnder_5 : RC M_X3_isUnder 5 0 6 := ⟨⟨by decide, by decide⟩, Or.inl ⟨by decide +kernel, rfl⟩⟩
theorem r_3_isUnder_6 : RS M_X3_isUnder 6 3 7 := ⟨by decide, Or.inl ⟨3, by decide +kernel, rfl, rfl⟩⟩
theorem r_3_isUnder_7 : RL M_X3_isUnder 7 3 8 := Or.inl ⟨3, by decide +kernel, rfl, rfl⟩
theorem r_3_isUnder_8 : RC M_X3_isUnder 8 8 10 := ⟨⟨by decide, by decide⟩, Or.inr (Or.inl ⟨by decide +kernel, by decide, rfl⟩)⟩
theorem r_3_isUnder_10 : RB M_X3_isUnder 10 (.if_icmp .ge) 42 13 := ⟨32, by decide +kernel, rfl, rfl⟩
theorem r_3_isUnder_42 : RC M_X3_isUnder 42 0 43 := ⟨⟨by decide, by decide⟩, Or.inl ⟨by decide +kernel, rfl⟩⟩
theorem r_3_isUnder_43 : RW M_X3_isUnder 43 .ireturn 44 1 := ⟨by decide +kernel, rfl⟩
theorem r_3_isUnder_13 : RL M_X3_isUnder 13 2 14 := Or.inl ⟨2, by decide +kernel, rfl, rfl⟩
theorem r_3_isUnder_14 : RB M_X3_isUnder 14 (.ifCond .lt) 42 17 := ⟨28, by decide +kernel, rfl, rfl⟩
theorem r_3_isUnder_17 : RL M_X3_isUnder 17 2 18 := Or.inl ⟨2, by decide +kernel, rfl, rfl⟩
theorem r_3_isUnder_18 : RC M_X3_isUnder 18 8 20 := ⟨⟨by decide, by decide⟩, Or.inr (Or.inl ⟨by decide +kernel, by decide, rfl⟩)⟩
theorem r_3_isUnder_20 : RB M_X3_isUnder 20 (.if_icmp .ge) 42 23 := ⟨22, by decide +kernel, rfl, rfl⟩
theorem r_3_isUnder_23 : RL M_X3_isUnder 23 2 24 := Or.inl ⟨2, by decide +kernel, rfl, rfl⟩
theorem r_3_isUnder_24 : RL M_X3_isUnder 24 1 25 := Or.inl ⟨1, by decide +kernel, rfl, rfl⟩
theorem r_3_isUnder_25 : RB M_X3_isUnder 25 (.if_icmp .ne) 30 28 := ⟨5, by decide +kernel, rfl, rfl⟩
theorem r_3_isUnder_30 : RGS M_X3_isUnder 30 "ABOVE" 33 := ⟨45, by decide +kernel, wd_f3_45, rfl⟩
theorem r_3_isUnder_33 : RL M_X3_isUnder 33 2 34 := Or.inl ⟨2, by decide +kernel, rfl, rfl⟩
theorem r_3_isUnder_34 : RW M_X3_isUnder 34 .iaload 35 1 := ⟨by decide +kernel, rfl⟩
theorem r_3_isUnder_35 : RS M_X3_isUnder 35 2 36 := ⟨by decide, Or.inl ⟨2, by decide +kernel, rfl, rfl⟩⟩
theorem r_3_isUnder_36 : RI M_X3_isUnder 36 3 1 39 := ⟨by decide, by decide +kernel, rfl⟩
theorem r_3_isUnder_39 : RB M_X3_isUnder 39 .goto 7 42 := ⟨(-32), by decide +kernel, rfl, rfl⟩
theorem r_3_isUnder_28 : RC M_X3_isUnder 28 1 29 := ⟨⟨by decide, by decide⟩, Or.inl ⟨by decide +kernel, rfl⟩⟩
theorem r_3_isUnder_29 : RW M_X3_isUnder 29 .ireturn 30 1 := ⟨by decide +kernel, rfl⟩
theorem r_1_take_0 : RA M_X1_take 0 0 1 := Or.inl ⟨0, by decide +kernel, rfl, rfl⟩
theorem r_1_take_1 : RL M_X1_take 1 1 2 := Or.inl ⟨1, by decide +kernel, rfl, rfl⟩
theorem r_1_take_2 : RKv M_X1_take M_X1_get 2 1 1 5 := ⟨125, by decide +kernel, wd_m1_125, ok_M_X1_get, wd_s1_get, rfl⟩
theorem r_1_take_5 : RT M_X1_take 5 3 6 := ⟨by decide, Or.inl ⟨3, by decide +kernel, rfl, rfl⟩⟩
theorem r_1_take_6 : RA M_X1_take 6 3 7 := Or.inl ⟨3, by decide +kernel, rfl, rfl⟩
theorem r_1_take_7 : RB M_X1_take 7 .ifnull 20 10 := ⟨13, by decide +kernel, rfl, rfl⟩
theorem r_1_take_20 : RC M_X1_take 20 (-1) 21 := ⟨⟨by decide, by decide⟩, Or.inl ⟨by decide +kernel, rfl⟩⟩
theorem r_1_take_21 : RW M_X1_take 21 .ireturn 22 1 := ⟨by decide +kernel, rfl⟩
theorem r_1_take_10 : RL M_X1_take 10 2 11 := Or.inl ⟨2, by decide +kernel, rfl, rfl⟩
theorem r_1_take_11 : RC M_X1_take 11 0 12 := ⟨⟨by decide, by decide⟩, Or.inl ⟨by decide +kernel, rfl⟩⟩
theorem r_1_take_12 : RC M_X1_take 12 7 14 := ⟨⟨by decide, by decide⟩, Or.inr (Or.inl ⟨by decide +kernel, by decide, rfl⟩)⟩
theorem r_1_take_14 : RKs M_X1_take M_X11_within 14 3 17 := ⟨56, by decide +kernel, Or.inr (by decide +kernel), ok_M_X11_within, rfl⟩
theorem r_1_take_17 : RB M_X1_take 17 (.ifCond .ne) 22 20 := ⟨5, by decide +kernel, rfl, rfl⟩
theorem r_1_take_22 : RA M_X1_take 22 3 23 := Or.inl ⟨3, by decide +kernel, rfl, rfl⟩
theorem r_1_take_23 : RL M_X1_take 23 2 24 := Or.inl ⟨2, by decide +kernel, rfl, rfl⟩
theorem r_1_take_24 : RKv M_X1_take M_X3_isUnder 24 1 3 27 := ⟨201, by decide +kernel, wd_m1_201, ok_M_X3_isUnder, wd_s3_isUnder, rfl⟩
theorem r_1_take_27 : RB M_X1_take 27 (.ifCond .eq) 37 30 := ⟨10, by decide +kernel, rfl, rfl⟩
theorem r_1_take_37 : RC M_X1_take 37 (-5) 39 := ⟨⟨by decide, by decide⟩, Or.inr (Or.inl ⟨by decide +kernel, by decide, rfl⟩)⟩
theorem r_1_take_39 : RW M_X1_take 39 .ireturn 40 1 := ⟨by decide +kernel, rfl⟩
theorem r_1_take_30 : RA M_X1_take 30 3 31 := Or.inl ⟨3, by decide +kernel, rfl, rfl⟩
theorem r_1_take_31 : RG M_X1_take 31 3 1 34 := ⟨149, _, by decide +kernel, rfl, by decide, wd_f1_149, rfl, rfl⟩
theorem r_1_take_34 : RB M_X1_take 34 .goto 39 37 := ⟨5, by decide +kernel, rfl, rfl⟩
theorem r_12_above_0 : RL M_X12_above 0 0 1 := Or.inl ⟨0, by decide +kernel, rfl, rfl⟩
theorem r_12_above_1 : RC M_X12_above 1 7 3 := ⟨⟨by decide, by decide⟩, Or.inr (Or.inl ⟨by decide +kernel, by decide, rfl⟩)⟩
theorem r_12_above_3 : RB M_X12_above 3 (.if_icmp .ne) 10 6 := ⟨7, by decide +kernel, rfl, rfl⟩
theorem r_12_above_10 : RL M_X12_above 10 0 11 := Or.inl ⟨0, by decide +kernel, rfl, rfl⟩
theorem r_12_above_11 : RC M_X12_above 11 1 12 := ⟨⟨by decide, by decide⟩, Or.inl ⟨by decide +kernel, rfl⟩⟩
theorem r_12_above_12 : RB M_X12_above 12 (.if_icmp .le) 19 15 := ⟨7, by decide +kernel, rfl, rfl⟩
theorem r_12_above_19 : RC M_X12_above 19 0 20 := ⟨⟨by decide, by decide⟩, Or.inl ⟨by decide +kernel, rfl⟩⟩
theorem r_12_above_20 : RW M_X12_above 20 .ireturn 21 1 := ⟨by decide +kernel, rfl⟩
theorem r_12_above_15 : RC M_X12_above 15 1 16 := ⟨⟨by decide, by decide⟩, Or.inl ⟨by decide +kernel, rfl⟩⟩
theorem r_12_above_16 : RB M_X12_above 16 .goto 20 19 := ⟨4, by decide +kernel, rfl, rfl⟩
theorem r_12_above_6 : RC M_X12_above 6 4 7 := ⟨⟨by decide, by decide⟩, Or.inl ⟨by decide +kernel, rfl⟩⟩
theorem r_12_above_7 : RB M_X12_above 7 .goto 20 10 := ⟨13, by decide +kernel, rfl, rfl⟩
theorem r_12_taken_0 : RA M_X12_taken 0 0 1 := Or.inl ⟨0, by decide +kernel, rfl, rfl⟩
theorem r_12_taken_1 : RL M_X12_taken 1 1 2 := Or.inl ⟨1, by decide +kernel, rfl, rfl⟩
theorem r_12_taken_2 : RKv M_X12_taken M_X12_isPerson 2 1 12 5 := ⟨278, by decide +kernel, wd_m12_278, ok_M_X12_isPerson, wd_s12_isPerson, rfl⟩
theorem r_12_taken_5 : RB M_X12_taken 5 (.ifCond .eq) 18 8 := ⟨13, by decide +kernel, rfl, rfl⟩
theorem r_12_taken_18 : RC M_X12_taken 18 (-1) 19 := ⟨⟨by decide, by decide⟩, Or.inl ⟨by decide +kernel, rfl⟩⟩
theorem r_12_taken_19 : RW M_X12_taken 19 .ireturn 20 1 := ⟨by decide +kernel, rfl⟩
theorem r_12_taken_8 : RL M_X12_taken 8 2 9 := Or.inl ⟨2, by decide +kernel, rfl, rfl⟩
theorem r_12_taken_9 : RC M_X12_taken 9 0 10 := ⟨⟨by decide, by decide⟩, Or.inl ⟨by decide +kernel, rfl⟩⟩
theorem r_12_taken_10 : RC M_X12_taken 10 7 12 := ⟨⟨by decide, by decide⟩, Or.inr (Or.inl ⟨by decide +kernel, by decide, rfl⟩)⟩
theorem r_12_taken_12 : RKs M_X12_taken M_X12_within 12 3 15 := ⟨240, by decide +kernel, Or.inl wd_m12_240, ok_M_X12_within, rfl⟩
theorem r_12_taken_15 : RB M_X12_taken 15 (.ifCond .ne) 20 18 := ⟨5, by decide +kernel, rfl, rfl⟩
theorem r_12_taken_20 : RA M_X12_taken 20 0 21 := Or.inl ⟨0, by decide +kernel, rfl, rfl⟩
theorem r_12_taken_21 : RG M_X12_taken 21 12 6 24 := ⟨22, _, by decide +kernel, rfl, by decide, wd_f12_22, rfl, rfl⟩
theorem r_12_taken_24 : RL M_X12_taken 24 1 25 := Or.inl ⟨1, by decide +kernel, rfl, rfl⟩
theorem r_12_taken_25 : RW M_X12_taken 25 .iaload 26 1 := ⟨by decide +kernel, rfl⟩
theorem r_12_taken_26 : RS M_X12_taken 26 3 27 := ⟨by decide, Or.inl ⟨3, by decide +kernel, rfl, rfl⟩⟩
theorem r_12_taken_27 : RL M_X12_taken 27 3 28 := Or.inl ⟨3, by decide +kernel, rfl, rfl⟩
theorem r_12_taken_28 : RL M_X12_taken 28 2 29 := Or.inl ⟨2, by decide +kernel, rfl, rfl⟩
theorem r_12_taken_29 : RB M_X12_taken 29 (.if_icmp .eq) 44 32 := ⟨15, by decide +kernel, rfl, rfl⟩
theorem r_12_taken_44 : RL M_X12_taken 44 3 45 := Or.inl ⟨3, by decide +kernel, rfl, rfl⟩
theorem r_12_taken_45 : RL M_X12_taken 45 2 46 := Or.inl ⟨2, by decide +kernel, rfl, rfl⟩
theorem r_12_taken_46 : RB M_X12_taken 46 (.if_icmp .ne) 58 49 := ⟨12, by decide +kernel, rfl, rfl⟩
theorem r_12_taken_58 : RC M_X12_taken 58 (-5) 60 := ⟨⟨by decide, by decide⟩, Or.inr (Or.inl ⟨by decide +kernel, by decide, rfl⟩)⟩
theorem r_12_taken_60 : RW M_X12_taken 60 .ireturn 61 1 := ⟨by decide +kernel, rfl⟩
theorem r_12_taken_49 : RA M_X12_taken 49 0 50 := Or.inl ⟨0, by decide +kernel, rfl, rfl⟩
theorem r_12_taken_50 : RG M_X12_taken 50 12 6 53 := ⟨22, _, by decide +kernel, rfl, by decide, wd_f12_22, rfl, rfl⟩
theorem r_12_taken_53 : RL M_X12_taken 53 1 54 := Or.inl ⟨1, by decide +kernel, rfl, rfl⟩
theorem r_12_taken_54 : RW M_X12_taken 54 .iaload 55 1 := ⟨by decide +kernel, rfl⟩
theorem r_12_taken_55 : RB M_X12_taken 55 .goto 60 58 := ⟨5, by decide +kernel, rfl, rfl⟩
theorem r_12_taken_32 : RL M_X12_taken 32 3 33 := Or.inl ⟨3, by decide +kernel, rfl, rfl⟩
theorem r_12_taken_33 : RB M_X12_taken 33 (.ifCond .le) 44 36 := ⟨11, by decide +kernel, rfl, rfl⟩
theorem r_12_taken_36 : RL M_X12_taken 36 3 37 := Or.inl ⟨3, by decide +kernel, rfl, rfl⟩
theorem r_12_taken_37 : RKs M_X12_taken M_X12_above 37 1 40 := ⟨525, by decide +kernel, Or.inl wd_m12_525, ok_M_X12_above, rfl⟩
theorem r_12_taken_40 : RS M_X12_taken 40 3 41 := ⟨by decide, Or.inl ⟨3, by decide +kernel, rfl, rfl⟩⟩
theorem r_12_taken_41 : RB M_X12_taken 41 .goto 27 44 := ⟨(-14), by decide +kernel, rfl, rfl⟩
theorem r_11_count_0 : RL M_X11_count 0 1 1 := Or.inl ⟨1, by decide +kernel, rfl, rfl⟩
theorem r_11_count_1 : RTS M_X11_count 1 [(0, 56), (1, 64), (2, 72), (3, 80), (4, 88), (5, 96), (6, 104), (7, 112), (8, 120), (9, 128)] 136 := ⟨135, 0, 9, #[55, 63, 71, 79, 87, 95, 103, 111, 119, 127], 55, by decide +kernel, by decide, rfl, by decide⟩
theorem r_11_count_56 : RA M_X11_count 56 0 57 := Or.inl ⟨0, by decide +kernel, rfl, rfl⟩
theorem r_11_count_57 : RG M_X11_count 57 11 0 60 := ⟨10, _, by decide +kernel, rfl, by decide, wd_f11_10, rfl, rfl⟩
theorem r_11_count_60 : RG M_X11_count 60 2 2 63 := ⟨252, _, by decide +kernel, rfl, by decide, wd_f11_252, rfl, rfl⟩
theorem r_11_count_63 : RW M_X11_count 63 .ireturn 64 1 := ⟨by decide +kernel, rfl⟩
theorem r_11_count_64 : RA M_X11_count 64 0 65 := Or.inl ⟨0, by decide +kernel, rfl, rfl⟩
theorem r_11_count_65 : RG M_X11_count 65 11 1 68 := ⟨21, _, by decide +kernel, rfl, by decide, wd_f11_21, rfl, rfl⟩
theorem r_11_count_68 : RG M_X11_count 68 1 1 71 := ⟨256, _, by decide +kernel, rfl, by decide, wd_f11_256, rfl, rfl⟩
theorem r_11_count_71 : RW M_X11_count 71 .ireturn 72 1 := ⟨by decide +kernel, rfl⟩
theorem r_11_count_72 : RA M_X11_count 72 0 73 := Or.inl ⟨0, by decide +kernel, rfl, rfl⟩
theorem r_11_count_73 : RG M_X11_count 73 11 1 76 := ⟨21, _, by decide +kernel, rfl, by decide, wd_f11_21, rfl, rfl⟩
theorem r_11_count_76 : RG M_X11_count 76 1 2 79 := ⟨259, _, by decide +kernel, rfl, by decide, wd_f11_259, rfl, rfl⟩
theorem r_11_count_79 : RW M_X11_count 79 .ireturn 80 1 := ⟨by decide +kernel, rfl⟩
theorem r_11_count_80 : RA M_X11_count 80 0 81 := Or.inl ⟨0, by decide +kernel, rfl, rfl⟩
theorem r_11_count_81 : RG M_X11_count 81 11 2 84 := ⟨30, _, by decide +kernel, rfl, by decide, wd_f11_30, rfl, rfl⟩
theorem r_11_count_84 : RG M_X11_count 84 9 0 87 := ⟨262, _, by decide +kernel, rfl, by decide, wd_f11_262, rfl, rfl⟩
theorem r_11_count_87 : RW M_X11_count 87 .ireturn 88 1 := ⟨by decide +kernel, rfl⟩
theorem r_11_count_88 : RA M_X11_count 88 0 89 := Or.inl ⟨0, by decide +kernel, rfl, rfl⟩
theorem r_11_count_89 : RG M_X11_count 89 11 2 92 := ⟨30, _, by decide +kernel, rfl, by decide, wd_f11_30, rfl, rfl⟩
theorem r_11_count_92 : RG M_X11_count 92 9 1 95 := ⟨265, _, by decide +kernel, rfl, by decide, wd_f11_265, rfl, rfl⟩
theorem r_11_count_95 : RW M_X11_count 95 .ireturn 96 1 := ⟨by decide +kernel, rfl⟩
theorem r_11_count_96 : RA M_X11_count 96 0 97 := Or.inl ⟨0, by decide +kernel, rfl, rfl⟩
theorem r_11_count_97 : RG M_X11_count 97 11 2 100 := ⟨30, _, by decide +kernel, rfl, by decide, wd_f11_30, rfl, rfl⟩
theorem r_11_count_100 : RG M_X11_count 100 9 2 103 := ⟨268, _, by decide +kernel, rfl, by decide, wd_f11_268, rfl, rfl⟩
theorem r_11_count_103 : RW M_X11_count 103 .ireturn 104 1 := ⟨by decide +kernel, rfl⟩
theorem r_11_count_104 : RA M_X11_count 104 0 105 := Or.inl ⟨0, by decide +kernel, rfl, rfl⟩
theorem r_11_count_105 : RG M_X11_count 105 11 3 108 := ⟨39, _, by decide +kernel, rfl, by decide, wd_f11_39, rfl, rfl⟩
theorem r_11_count_108 : RG M_X11_count 108 8 0 111 := ⟨271, _, by decide +kernel, rfl, by decide, wd_f11_271, rfl, rfl⟩
theorem r_11_count_111 : RW M_X11_count 111 .ireturn 112 1 := ⟨by decide +kernel, rfl⟩
theorem r_11_count_112 : RA M_X11_count 112 0 113 := Or.inl ⟨0, by decide +kernel, rfl, rfl⟩
theorem r_11_count_113 : RG M_X11_count 113 11 4 116 := ⟨46, _, by decide +kernel, rfl, by decide, wd_f11_46, rfl, rfl⟩
theorem r_11_count_116 : RG M_X11_count 116 5 0 119 := ⟨272, _, by decide +kernel, rfl, by decide, wd_f11_272, rfl, rfl⟩
theorem r_11_count_119 : RW M_X11_count 119 .ireturn 120 1 := ⟨by decide +kernel, rfl⟩
theorem r_11_count_120 : RA M_X11_count 120 0 121 := Or.inl ⟨0, by decide +kernel, rfl, rfl⟩
theorem r_11_count_121 : RG M_X11_count 121 11 1 124 := ⟨21, _, by decide +kernel, rfl, by decide, wd_f11_21, rfl, rfl⟩
theorem r_11_count_124 : RG M_X11_count 124 1 3 127 := ⟨273, _, by decide +kernel, rfl, by decide, wd_f11_273, rfl, rfl⟩
theorem r_11_count_127 : RW M_X11_count 127 .ireturn 128 1 := ⟨by decide +kernel, rfl⟩
theorem r_11_count_128 : RA M_X11_count 128 0 129 := Or.inl ⟨0, by decide +kernel, rfl, rfl⟩
theorem r_11_count_129 : RG M_X11_count 129 11 3 132 := ⟨39, _, by decide +kernel, rfl, by decide, wd_f11_39, rfl, rfl⟩
theorem r_11_count_132 : RG M_X11_count 132 8 1 135 := ⟨276, _, by decide +kernel, rfl, by decide, wd_f11_276, rfl, rfl⟩
theorem r_11_count_135 : RW M_X11_count 135 .ireturn 136 1 := ⟨by decide +kernel, rfl⟩
theorem r_11_count_136 : RL M_X11_count 136 1 137 := Or.inl ⟨1, by decide +kernel, rfl, rfl⟩
theorem r_11_count_137 : RC M_X11_count 137 10 139 := ⟨⟨by decide, by decide⟩, Or.inr (Or.inl ⟨by decide +kernel, by decide, rfl⟩)⟩
theorem r_11_count_139 : RC M_X11_count 139 18 141 := ⟨⟨by decide, by decide⟩, Or.inr (Or.inl ⟨by decide +kernel, by decide, rfl⟩)⟩
theorem r_11_count_141 : RKs M_X11_count M_X11_within 141 3 144 := ⟨279, by decide +kernel, Or.inl wd_m11_279, ok_M_X11_within, rfl⟩
theorem r_11_count_144 : RB M_X11_count 144 (.ifCond .eq) 161 147 := ⟨17, by decide +kernel, rfl, rfl⟩
theorem r_11_count_161 : RC M_X11_count 161 (-1) 162 := ⟨⟨by decide, by decide⟩, Or.inl ⟨by decide +kernel, rfl⟩⟩
theorem r_11_count_162 : RW M_X11_count 162 .ireturn 163 1 := ⟨by decide +kernel, rfl⟩
theorem r_11_count_147 : RA M_X11_count 147 0 148 := Or.inl ⟨0, by decide +kernel, rfl, rfl⟩
theorem r_11_count_148 : RG M_X11_count 148 11 1 151 := ⟨21, _, by decide +kernel, rfl, by decide, wd_f11_21, rfl, rfl⟩
theorem r_11_count_151 : RL M_X11_count 151 1 152 := Or.inl ⟨1, by decide +kernel, rfl, rfl⟩
theorem r_11_count_152 : RC M_X11_count 152 10 154 := ⟨⟨by decide, by decide⟩, Or.inr (Or.inl ⟨by decide +kernel, by decide, rfl⟩)⟩
theorem r_11_count_154 : RW M_X11_count 154 .isub 155 1 := ⟨by decide +kernel, rfl⟩
theorem r_11_count_155 : RKv M_X11_count M_X1_countState 155 1 1 158 := ⟨283, by decide +kernel, wd_m11_283, ok_M_X1_countState, wd_s1_countState, rfl⟩
theorem r_11_count_158 : RB M_X11_count 158 .goto 162 161 := ⟨4, by decide +kernel, rfl, rfl⟩
theorem r_12_count_0 : RL M_X12_count 0 1 1 := Or.inl ⟨1, by decide +kernel, rfl, rfl⟩
theorem r_12_count_1 : RC M_X12_count 1 10 3 := ⟨⟨by decide, by decide⟩, Or.inr (Or.inl ⟨by decide +kernel, by decide, rfl⟩)⟩
theorem r_12_count_3 : RC M_X12_count 3 18 5 := ⟨⟨by decide, by decide⟩, Or.inr (Or.inl ⟨by decide +kernel, by decide, rfl⟩)⟩
theorem r_12_count_5 : RKs M_X12_count M_X12_within 5 3 8 := ⟨240, by decide +kernel, Or.inl wd_m12_240, ok_M_X12_within, rfl⟩
theorem r_12_count_8 : RB M_X12_count 8 (.ifCond .eq) 52 11 := ⟨44, by decide +kernel, rfl, rfl⟩
theorem r_12_count_52 : RL M_X12_count 52 1 53 := Or.inl ⟨1, by decide +kernel, rfl, rfl⟩
theorem r_12_count_53 : RTS M_X12_count 53 [(0, 108), (1, 113), (2, 118), (3, 123), (4, 128), (5, 133), (6, 138), (7, 143), (8, 148), (9, 153)] 158 := ⟨105, 0, 9, #[55, 60, 65, 70, 75, 80, 85, 90, 95, 100], 55, by decide +kernel, by decide, rfl, by decide⟩
theorem r_12_count_108 : RA M_X12_count 108 0 109 := Or.inl ⟨0, by decide +kernel, rfl, rfl⟩
theorem r_12_count_109 : RG M_X12_count 109 12 3 112 := ⟨244, _, by decide +kernel, rfl, by decide, wd_f12_244, rfl, rfl⟩
theorem r_12_count_112 : RW M_X12_count 112 .ireturn 113 1 := ⟨by decide +kernel, rfl⟩
theorem r_12_count_113 : RA M_X12_count 113 0 114 := Or.inl ⟨0, by decide +kernel, rfl, rfl⟩
theorem r_12_count_114 : RG M_X12_count 114 12 17 117 := ⟨251, _, by decide +kernel, rfl, by decide, wd_f12_251, rfl, rfl⟩
theorem r_12_count_117 : RW M_X12_count 117 .ireturn 118 1 := ⟨by decide +kernel, rfl⟩
theorem r_12_count_118 : RA M_X12_count 118 0 119 := Or.inl ⟨0, by decide +kernel, rfl, rfl⟩
theorem r_12_count_119 : RG M_X12_count 119 12 0 122 := ⟨268, _, by decide +kernel, rfl, by decide, wd_f12_268, rfl, rfl⟩
theorem r_12_count_122 : RW M_X12_count 122 .ireturn 123 1 := ⟨by decide +kernel, rfl⟩
theorem r_12_count_123 : RA M_X12_count 123 0 124 := Or.inl ⟨0, by decide +kernel, rfl, rfl⟩
theorem r_12_count_124 : RG M_X12_count 124 12 27 127 := ⟨293, _, by decide +kernel, rfl, by decide, wd_f12_293, rfl, rfl⟩
theorem r_12_count_127 : RW M_X12_count 127 .ireturn 128 1 := ⟨by decide +kernel, rfl⟩
theorem r_12_count_128 : RA M_X12_count 128 0 129 := Or.inl ⟨0, by decide +kernel, rfl, rfl⟩
theorem r_12_count_129 : RG M_X12_count 129 12 29 132 := ⟨296, _, by decide +kernel, rfl, by decide, wd_f12_296, rfl, rfl⟩
theorem r_12_count_132 : RW M_X12_count 132 .ireturn 133 1 := ⟨by decide +kernel, rfl⟩
theorem r_12_count_133 : RA M_X12_count 133 0 134 := Or.inl ⟨0, by decide +kernel, rfl, rfl⟩
theorem r_12_count_134 : RG M_X12_count 134 12 34 137 := ⟨309, _, by decide +kernel, rfl, by decide, wd_f12_309, rfl, rfl⟩
theorem r_12_count_137 : RW M_X12_count 137 .ireturn 138 1 := ⟨by decide +kernel, rfl⟩
theorem r_12_count_138 : RA M_X12_count 138 0 139 := Or.inl ⟨0, by decide +kernel, rfl, rfl⟩
theorem r_12_count_139 : RG M_X12_count 139 12 42 142 := ⟨376, _, by decide +kernel, rfl, by decide, wd_f12_376, rfl, rfl⟩
theorem r_12_count_142 : RW M_X12_count 142 .ireturn 143 1 := ⟨by decide +kernel, rfl⟩
theorem r_12_count_143 : RA M_X12_count 143 0 144 := Or.inl ⟨0, by decide +kernel, rfl, rfl⟩
theorem r_12_count_144 : RG M_X12_count 144 12 55 147 := ⟨396, _, by decide +kernel, rfl, by decide, wd_f12_396, rfl, rfl⟩
theorem r_12_count_147 : RW M_X12_count 147 .ireturn 148 1 := ⟨by decide +kernel, rfl⟩
theorem r_12_count_148 : RA M_X12_count 148 0 149 := Or.inl ⟨0, by decide +kernel, rfl, rfl⟩
theorem r_12_count_149 : RG M_X12_count 149 12 22 152 := ⟨265, _, by decide +kernel, rfl, by decide, wd_f12_265, rfl, rfl⟩
theorem r_12_count_152 : RW M_X12_count 152 .ireturn 153 1 := ⟨by decide +kernel, rfl⟩
theorem r_12_count_153 : RA M_X12_count 153 0 154 := Or.inl ⟨0, by decide +kernel, rfl, rfl⟩
theorem r_12_count_154 : RG M_X12_count 154 12 36 157 := ⟨322, _, by decide +kernel, rfl, by decide, wd_f12_322, rfl, rfl⟩
theorem r_12_count_157 : RW M_X12_count 157 .ireturn 158 1 := ⟨by decide +kernel, rfl⟩
theorem r_12_count_158 : RC M_X12_count 158 (-1) 159 := ⟨⟨by decide, by decide⟩, Or.inl ⟨by decide +kernel, rfl⟩⟩
theorem r_12_count_159 : RW M_X12_count 159 .ireturn 160 1 := ⟨by decide +kernel, rfl⟩
theorem r_12_count_11 : RC M_X12_count 11 0 12 := ⟨⟨by decide, by decide⟩, Or.inl ⟨by decide +kernel, rfl⟩⟩
theorem r_12_count_12 : RS M_X12_count 12 2 13 := ⟨by decide, Or.inl ⟨2, by decide +kernel, rfl, rfl⟩⟩
theorem r_12_count_13 : RC M_X12_count 13 0 14 := ⟨⟨by decide, by decide⟩, Or.inl ⟨by decide +kernel, rfl⟩⟩
theorem r_12_count_14 : RS M_X12_count 14 3 15 := ⟨by decide, Or.inl ⟨3, by decide +kernel, rfl, rfl⟩⟩
theorem r_12_count_15 : RL M_X12_count 15 3 16 := Or.inl ⟨3, by decide +kernel, rfl, rfl⟩
theorem r_12_count_16 : RA M_X12_count 16 0 17 := Or.inl ⟨0, by decide +kernel, rfl, rfl⟩
theorem r_12_count_17 : RG M_X12_count 17 12 17 20 := ⟨251, _, by decide +kernel, rfl, by decide, wd_f12_251, rfl, rfl⟩
theorem r_12_count_20 : RB M_X12_count 20 (.if_icmp .ge) 50 23 := ⟨30, by decide +kernel, rfl, rfl⟩
theorem r_12_count_50 : RL M_X12_count 50 2 51 := Or.inl ⟨2, by decide +kernel, rfl, rfl⟩
theorem r_12_count_51 : RW M_X12_count 51 .ireturn 52 1 := ⟨by decide +kernel, rfl⟩
theorem r_12_count_23 : RL M_X12_count 23 2 24 := Or.inl ⟨2, by decide +kernel, rfl, rfl⟩
theorem r_12_count_24 : RA M_X12_count 24 0 25 := Or.inl ⟨0, by decide +kernel, rfl, rfl⟩
theorem r_12_count_25 : RG M_X12_count 25 12 8 28 := ⟨28, _, by decide +kernel, rfl, by decide, wd_f12_28, rfl, rfl⟩
theorem r_12_count_28 : RL M_X12_count 28 3 29 := Or.inl ⟨3, by decide +kernel, rfl, rfl⟩
theorem r_12_count_29 : RW M_X12_count 29 .iaload 30 1 := ⟨by decide +kernel, rfl⟩
theorem r_12_count_30 : RL M_X12_count 30 1 31 := Or.inl ⟨1, by decide +kernel, rfl, rfl⟩
theorem r_12_count_31 : RC M_X12_count 31 10 33 := ⟨⟨by decide, by decide⟩, Or.inr (Or.inl ⟨by decide +kernel, by decide, rfl⟩)⟩
theorem r_12_count_33 : RW M_X12_count 33 .isub 34 1 := ⟨by decide +kernel, rfl⟩
theorem r_12_count_34 : RB M_X12_count 34 (.if_icmp .ne) 41 37 := ⟨7, by decide +kernel, rfl, rfl⟩
theorem r_12_count_41 : RC M_X12_count 41 0 42 := ⟨⟨by decide, by decide⟩, Or.inl ⟨by decide +kernel, rfl⟩⟩
theorem r_12_count_42 : RW M_X12_count 42 .iadd 43 1 := ⟨by decide +kernel, rfl⟩
theorem r_12_count_43 : RS M_X12_count 43 2 44 := ⟨by decide, Or.inl ⟨2, by decide +kernel, rfl, rfl⟩⟩
theorem r_12_count_44 : RI M_X12_count 44 3 1 47 := ⟨by decide, by decide +kernel, rfl⟩
theorem r_12_count_47 : RB M_X12_count 47 .goto 15 50 := ⟨(-32), by decide +kernel, rfl, rfl⟩
theorem r_12_count_37 : RC M_X12_count 37 1 38 := ⟨⟨by decide, by decide⟩, Or.inl ⟨by decide +kernel, rfl⟩⟩
theorem r_12_count_38 : RB M_X12_count 38 .goto 42 41 := ⟨4, by decide +kernel, rfl, rfl⟩
set_option maxRecDepth 10000 in
theorem sp_X1_send {l : Launch} {w : Wo} {d : Nat} {G : PH} {P : Option PV → PH → Prop} {p t : Int} (hp : ∀ i, 0 ≤ i → i < (gF G 1 0 1) → gD G 30 0 i = some (3, i)) (hsz : 0 ≤ (gF G 1 0 1) ∧ (gF G 1 0 1) ≤ 150) (hst : 0 ≤ (gF G 1 0 3) ∧ (gF G 1 0 3) ≤ 400) (hnum : (0 ≤ p ∧ p < (gF G 1 0 1)) → (gF G 3 (p) 0) = p) (hpl : (0 ≤ p ∧ p < (gF G 1 0 1)) → (gF G 3 (p) 8) = 0 → 0 ≤ (gF G 3 (p) 10) ∧ (gF G 3 (p) 10) < (gF G 2 0 2)) (hday : 0 ≤ (gF G 1 0 2) ∧ (gF G 1 0 2) ≤ 600) (hc : 0 ≤ (gF G 2 0 2) ∧ (gF G 2 0 2) ≤ 16) (hr : ∀ k, 0 ≤ k → k < 324 → 0 ≤ (gA G 43 0 (k)) ∧ (gA G 43 0 (k)) ≤ 9) (h1 : ¬ ((0 ≤ p ∧ p < (gF G 1 0 1)) ∧ ((0 ≤ t ∧ t < (gF G 2 0 2)) ∨ t = 16 ∨ t = 17)) → P (some (vI (-1))) G) (h2 : (0 ≤ p ∧ p < (gF G 1 0 1)) → ((0 ≤ t ∧ t < (gF G 2 0 2)) ∨ t = 16 ∨ t = 17) → ¬ ((gF G 3 (p) 8) = 0 ∧ (gF G 3 (p) 10) ≠ t ∧ (¬ (0 ≤ t ∧ t < (gF G 2 0 2)) ∨ ((gA G 41 0 (t)) = (gF G 3 (p) 2) ∧ cnt (fun i => (gF G 3 (i) 8) ≤ 1 ∧ (gF G 3 (i) 10) = t) (gF G 1 0 1) < (gA G 42 0 (t))))) → P (some (vI (-3))) G) (h3 : (0 ≤ p ∧ p < (gF G 1 0 1)) → ((0 ≤ t ∧ t < (gF G 2 0 2)) ∨ t = 16 ∨ t = 17) → ((gF G 3 (p) 8) = 0 ∧ (gF G 3 (p) 10) ≠ t ∧ (¬ (0 ≤ t ∧ t < (gF G 2 0 2)) ∨ ((gA G 41 0 (t)) = (gF G 3 (p) 2) ∧ cnt (fun i => (gF G 3 (i) 8) ≤ 1 ∧ (gF G 3 (i) 10) = t) (gF G 1 0 1) < (gA G 42 0 (t))))) → ∀ Dr fr, IsD (fun u v => (gA G 43 0 (u * 18 + v))) (fun u => ¬ (0 ≤ u ∧ u < (gF G 2 0 2)) ∨ (gA G 41 0 (u)) = (gA G 41 0 ((gF G 3 (p) 10)))) (gF G 3 (p) 10) 1000000000 Dr → (∀ v, 0 ≤ v → v < 18 → Dr v < 1000000000 → Dr v ≤ 162) → 1000000000 ≤ Dr t → P (some (vI (-4))) (uA (uA G 44 0 Dr) 45 0 fr)) (h4 : (0 ≤ p ∧ p < (gF G 1 0 1)) → ((0 ≤ t ∧ t < (gF G 2 0 2)) ∨ t = 16 ∨ t = 17) → ((gF G 3 (p) 8) = 0 ∧ (gF G 3 (p) 10) ≠ t ∧ (¬ (0 ≤ t ∧ t < (gF G 2 0 2)) ∨ ((gA G 41 0 (t)) = (gF G 3 (p) 2) ∧ cnt (fun i => (gF G 3 (i) 8) ≤ 1 ∧ (gF G 3 (i) 10) = t) (gF G 1 0 1) < (gA G 42 0 (t))))) → ∀ Dr fr, IsD (fun u v => (gA G 43 0 (u * 18 + v))) (fun u => ¬ (0 ≤ u ∧ u < (gF G 2 0 2)) ∨ (gA G 41 0 (u)) = (gA G 41 0 ((gF G 3 (p) 10)))) (gF G 3 (p) 10) 1000000000 Dr → (∀ v, 0 ≤ v → v < 18 → Dr v < 1000000000 → Dr v ≤ 162) → Dr t < 1000000000 → (0 ≤ t ∧ t < (gF G 2 0 2)) → ¬ ((gF G 1 0 3) + cnt (fun i => (gF G 3 (i) 8) = 1 ∧ 0 ≤ (gF G 3 (i) 10) ∧ (gF G 3 (i) 10) < (gF G 2 0 2)) (gF G 1 0 1) < 400) → P (some (vI (-2))) (uA (uA G 44 0 Dr) 45 0 fr)) (h5 : (0 ≤ p ∧ p < (gF G 1 0 1)) → ((0 ≤ t ∧ t < (gF G 2 0 2)) ∨ t = 16 ∨ t = 17) → ((gF G 3 (p) 8) = 0 ∧ (gF G 3 (p) 10) ≠ t ∧ (¬ (0 ≤ t ∧ t < (gF G 2 0 2)) ∨ ((gA G 41 0 (t)) = (gF G 3 (p) 2) ∧ cnt (fun i => (gF G 3 (i) 8) ≤ 1 ∧ (gF G 3 (i) 10) = t) (gF G 1 0 1) < (gA G 42 0 (t))))) → ∀ Dr fr, IsD (fun u v => (gA G 43 0 (u * 18 + v))) (fun u => ¬ (0 ≤ u ∧ u < (gF G 2 0 2)) ∨ (gA G 41 0 (u)) = (gA G 41 0 ((gF G 3 (p) 10)))) (gF G 3 (p) 10) 1000000000 Dr → (∀ v, 0 ≤ v → v < 18 → Dr v < 1000000000 → Dr v ≤ 162) → Dr t < 1000000000 → (¬ (0 ≤ t ∧ t < (gF G 2 0 2)) ∨ (gF G 1 0 3) + cnt (fun i => (gF G 3 (i) 8) = 1 ∧ 0 ≤ (gF G 3 (i) 10) ∧ (gF G 3 (i) 10) < (gF G 2 0 2)) (gF G 1 0 1) < 400) → ∀ r, r = Dr t → P (some (vI ((gF G 1 0 2) + r))) (sF (sF (sF (sF (sF (sF (uA (uA (uA G 44 0 Dr) 45 0 fr) 35 0 (filF (fun j0 => (gA G 32 0 (j0)) = p ∧ (gA G 35 0 (j0)) = -1) (fun j0 => (gF G 1 0 2)) (gA G 35 0) (gF G 1 0 3))) 3 (p) 8 (1)) 3 (p) 10 (-1)) 3 (p) 9 ((gF G 1 0 2))) 3 (p) 11 (-1)) 3 (p) 10 (t)) 3 (p) 11 ((gF G 1 0 2) + r))) : PW l w M_X1_send (d + 3) 0 [some (vR 1 (0)), some (vI (p)), some (vI (t)), none, none, none] [] G P := by
  refine pw_aload r_1_send_0 rfl ?_
  refine pw_iload r_1_send_1 rfl ?_
  refine pw_callV (av := [vI (p)]) (st := []) (ls0 := [some (vR 1 (0)), some (vI (p))]) r_1_send_2 rfl rfl rfl (Nat.le_refl _) ?_
  refine sp_X1_get (by first | assumption | exact hp | omega) (by first | assumption | exact hsz | omega) ?_ ?_
  · skip
    intros
    refine pw_astore (ls' := [some (vR 1 (0)), some (vI (p)), some (vI (t)), some (vN), none, none]) r_1_send_5 rfl rfl ?_
    refine pw_aload r_1_send_6 rfl ?_
    refine pw_ifnull r_1_send_7 (fun _ => ?_) (fun _ q => by cases q)
    refine pw_const r_1_send_21 ?_
    refine pw_iret r_1_send_22 rfl (Nat.le_refl _) ⟨rfl, ?_⟩
    first | exact h1 (by omega) | exact h2 (by omega) (by omega) (by omega) | exact h3 (by omega) (by omega) hok Dr fr hDr hbr (by omega) | exact h4 (by omega) (by omega) hok Dr fr hDr hbr (by omega) (by omega) (by omega) | exact h5 (by omega) (by omega) hok Dr fr hDr hbr (by omega) (by omega) _ (by omega)
  · skip
    intros
    refine pw_astore (ls' := [some (vR 1 (0)), some (vI (p)), some (vI (t)), some (vR 3 (p)), none, none]) r_1_send_5 rfl rfl ?_
    refine pw_aload r_1_send_6 rfl ?_
    refine pw_ifnull r_1_send_7 (fun q => by cases q) (fun _ _ => ?_)
    refine pw_aload r_1_send_10 rfl ?_
    refine pw_getR r_1_send_11 fs_1_4 (by decide) ?_
    refine pw_iload r_1_send_14 rfl ?_
    refine pw_callV (av := [vI (t)]) (st := []) (ls0 := [some (vR 2 (0)), some (vI (t))]) r_1_send_15 rfl rfl rfl (Nat.le_refl _) ?_
    refine sp_X2_isPoint (by first | assumption | exact hc | omega) ?_
    refine pw_if_neB r_1_send_18 (fun h18 => ?_) (fun h18 => ?_)
    · skip
      refine pw_aload r_1_send_23 rfl ?_
      refine pw_getR r_1_send_24 fs_1_4 (by decide) ?_
      refine pw_iload r_1_send_27 rfl ?_
      refine pw_callV (av := [vI (t)]) (st := []) (ls0 := [some (vR 2 (0)), some (vI (t))]) r_1_send_28 rfl rfl rfl (Nat.le_refl _) ?_
      refine sp_X2_isCamp (by first | assumption | exact hc | omega) ?_
      refine pw_istore (ls' := [some (vR 1 (0)), some (vI (p)), some (vI (t)), some (vR 3 (p)), some (vI (b2i (0 ≤ t ∧ t < (gF G 2 0 2)))), none]) r_1_send_31 rfl rfl ?_
      refine pw_aload r_1_send_33 rfl ?_
      refine pw_getI r_1_send_34 fs_3_8 (by decide) ?_
      refine pw_if_ne r_1_send_37 (fun h37 => ?_) (fun h37 => ?_)
      · skip
        refine pw_const r_1_send_48 ?_
        refine pw_iret r_1_send_50 rfl (Nat.le_refl _) ⟨rfl, ?_⟩
        first | exact h1 (by omega) | exact h2 (by omega) (by omega) (by omega) | exact h3 (by omega) (by omega) hok Dr fr hDr hbr (by omega) | exact h4 (by omega) (by omega) hok Dr fr hDr hbr (by omega) (by omega) (by omega) | exact h5 (by omega) (by omega) hok Dr fr hDr hbr (by omega) (by omega) _ (by omega)
      · skip
        refine pw_aload r_1_send_40 rfl ?_
        refine pw_getI r_1_send_41 fs_3_10 (by decide) ?_
        refine pw_iload r_1_send_44 rfl ?_
        refine pw_icmp_ne r_1_send_45 (fun h45 => ?_) (fun h45 => ?_)
        · skip
          refine pw_iload r_1_send_51 rfl ?_
          refine pw_if_eqB r_1_send_53 (fun h53 => ?_) (fun h53 => ?_)
          · skip
            have hpl2 := hpl (by omega) (by omega)
            refine pw_aload r_1_send_83 rfl ?_
            refine pw_getR r_1_send_84 fs_1_4 (by decide) ?_
            refine pw_aload r_1_send_87 rfl ?_
            refine pw_getI r_1_send_88 fs_3_10 (by decide) ?_
            refine pw_iload r_1_send_91 rfl ?_
            refine pw_callV (av := [vI (gF G 3 (p) 10), vI (t)]) (st := []) (ls0 := [some (vR 2 (0)), some (vI (gF G 3 (p) 10)), some (vI (t)), none, none]) r_1_send_92 rfl rfl rfl (Nat.le_refl _) ?_
            refine sp_X2_farFrom (hc) (by first | assumption | exact hr | omega) ?_ ?_
            · skip
              intro qf; exact absurd (show _ ∧ _ from ⟨by omega, by omega⟩) qf
            · skip
              intro qf1 qf2 Dr fr hDr hbr rr hrr
              refine pw_istore (ls' := [some (vR 1 (0)), some (vI (p)), some (vI (t)), some (vR 3 (p)), some (vI (b2i (0 ≤ t ∧ t < (gF G 2 0 2)))), some (vI (rr))]) r_1_send_95 rfl rfl ?_
              refine pw_iload r_1_send_97 rfl ?_
              refine pw_if_ge r_1_send_99 (fun h99 => ?_) (fun h99 => ?_)
              · skip
                have hok : ((gF G 3 (p) 8) = 0 ∧ (gF G 3 (p) 10) ≠ t ∧ (¬ (0 ≤ t ∧ t < (gF G 2 0 2)) ∨ ((gA G 41 0 (t)) = (gF G 3 (p) 2) ∧ cnt (fun i => (gF G 3 (i) 8) ≤ 1 ∧ (gF G 3 (i) 10) = t) (gF G 1 0 1) < (gA G 42 0 (t))))) := by omega
                refine pw_iload r_1_send_105 rfl ?_
                refine pw_if_eqB r_1_send_107 (fun h107 => ?_) (fun h107 => ?_)
                · skip
                  refine pw_aload r_1_send_120 rfl ?_
                  refine pw_aload r_1_send_121 rfl ?_
                  refine pw_const r_1_send_122 ?_
                  refine pw_callV (av := [vR 3 (p), vI (1)]) (st := []) (ls0 := [some (vR 1 (0)), some (vR 3 (p)), some (vI (1)), none]) r_1_send_123 rfl rfl rfl (Nat.le_refl _) ?_
                  refine sp_X1_leave (hst) (hnum (by omega)) ?_
                  refine pw_eqG (G' := sF (sF (sF (sF (uA (uA (uA G 44 (0) (Dr)) 45 (0) (fr)) 35 (0) (filF (fun j0 => (gA G 32 (0) (j0)) = p ∧ (gA G 35 (0) (j0)) = -1) (fun j0 => (gF G 1 (0) 2)) (gA G 35 0) (gF G 1 (0) 3))) 3 (p) 8 (1)) 3 (p) 10 (-1)) 3 (p) 9 ((gF G 1 (0) 2))) 3 (p) 11 (-1)) (by first | rfl | simp (disch := decide) [gF_sF, gF_sA, gF_uA, gF_sD, gA_sF, gA_sA, gA_uA, gA_sD, gD_sF, gD_sA, gD_uA, gD_sD]) ?_
                  refine pw_aload r_1_send_126 rfl ?_
                  refine pw_iload r_1_send_127 rfl ?_
                  refine pw_putI r_1_send_128 (by decide +kernel) fs_3_10 (by decide) ?_
                  refine pw_aload r_1_send_131 rfl ?_
                  refine pw_aload r_1_send_132 rfl ?_
                  refine pw_getIv (v := gF G 1 (0) 2) r_1_send_133 fs_1_2 (by decide) (by first | rfl | simp [gF_sF, gF_sA, gF_uA, gF_sD, gA_sF, gA_sA, gA_uA, gA_sD, gD_sF, gD_sA, gD_uA, gD_sD]) ?_
                  refine pw_iload r_1_send_136 rfl ?_
                  refine pw_iadd r_1_send_138 (by omega) ?_
                  refine pw_putI r_1_send_139 (by decide +kernel) fs_3_11 (by decide) ?_
                  refine pw_aload r_1_send_142 rfl ?_
                  refine pw_getIv (v := ((gF G 1 (0) 2) + rr)) r_1_send_143 fs_3_11 (by decide) (by first | rfl | simp [gF_sF, gF_sA, gF_uA, gF_sD, gA_sF, gA_sA, gA_uA, gA_sD, gD_sF, gD_sA, gD_uA, gD_sD]) ?_
                  refine pw_iret r_1_send_146 rfl (Nat.le_refl _) ⟨rfl, ?_⟩
                  first | exact h1 (by omega) | exact h2 (by omega) (by omega) (by omega) | exact h3 (by omega) (by omega) hok Dr fr hDr hbr (by omega) | exact h4 (by omega) (by omega) hok Dr fr hDr hbr (by omega) (by omega) (by omega) | exact h5 (by omega) (by omega) hok Dr fr hDr hbr (by omega) (by omega) _ (by omega)
                · skip
                  refine pw_aload r_1_send_110 rfl ?_
                  refine pw_callV (av := []) (st := []) (ls0 := [some (vR 1 (0)), none, none, none]) r_1_send_111 rfl rfl rfl (Nat.le_refl _) ?_
                  refine sp_X1_hasStay (hp) (hsz) (hst) (hc) ?_
                  refine pw_top (b := b2i ((gF G 1 (0) 3) + cnt (fun i => (gF G 3 (i) 8) = 1 ∧ 0 ≤ (gF G 3 (i) 10) ∧ (gF G 3 (i) 10) < (gF G 2 (0) 2)) (gF G 1 (0) 1) < 400)) (by first | rfl | simp (disch := decide) [gF_sF, gF_sA, gF_uA, gF_sD, gA_sF, gA_sA, gA_uA, gA_sD, gD_sF, gD_sA, gD_uA, gD_sD]) ?_
                  refine pw_if_neB r_1_send_114 (fun h114 => ?_) (fun h114 => ?_)
                  · skip
                    refine pw_aload r_1_send_120 rfl ?_
                    refine pw_aload r_1_send_121 rfl ?_
                    refine pw_const r_1_send_122 ?_
                    refine pw_callV (av := [vR 3 (p), vI (1)]) (st := []) (ls0 := [some (vR 1 (0)), some (vR 3 (p)), some (vI (1)), none]) r_1_send_123 rfl rfl rfl (Nat.le_refl _) ?_
                    refine sp_X1_leave (hst) (hnum (by omega)) ?_
                    refine pw_eqG (G' := sF (sF (sF (sF (uA (uA (uA G 44 (0) (Dr)) 45 (0) (fr)) 35 (0) (filF (fun j0 => (gA G 32 (0) (j0)) = p ∧ (gA G 35 (0) (j0)) = -1) (fun j0 => (gF G 1 (0) 2)) (gA G 35 0) (gF G 1 (0) 3))) 3 (p) 8 (1)) 3 (p) 10 (-1)) 3 (p) 9 ((gF G 1 (0) 2))) 3 (p) 11 (-1)) (by first | rfl | simp (disch := decide) [gF_sF, gF_sA, gF_uA, gF_sD, gA_sF, gA_sA, gA_uA, gA_sD, gD_sF, gD_sA, gD_uA, gD_sD]) ?_
                    refine pw_aload r_1_send_126 rfl ?_
                    refine pw_iload r_1_send_127 rfl ?_
                    refine pw_putI r_1_send_128 (by decide +kernel) fs_3_10 (by decide) ?_
                    refine pw_aload r_1_send_131 rfl ?_
                    refine pw_aload r_1_send_132 rfl ?_
                    refine pw_getIv (v := gF G 1 (0) 2) r_1_send_133 fs_1_2 (by decide) (by first | rfl | simp [gF_sF, gF_sA, gF_uA, gF_sD, gA_sF, gA_sA, gA_uA, gA_sD, gD_sF, gD_sA, gD_uA, gD_sD]) ?_
                    refine pw_iload r_1_send_136 rfl ?_
                    refine pw_iadd r_1_send_138 (by omega) ?_
                    refine pw_putI r_1_send_139 (by decide +kernel) fs_3_11 (by decide) ?_
                    refine pw_aload r_1_send_142 rfl ?_
                    refine pw_getIv (v := ((gF G 1 (0) 2) + rr)) r_1_send_143 fs_3_11 (by decide) (by first | rfl | simp [gF_sF, gF_sA, gF_uA, gF_sD, gA_sF, gA_sA, gA_uA, gA_sD, gD_sF, gD_sA, gD_uA, gD_sD]) ?_
                    refine pw_iret r_1_send_146 rfl (Nat.le_refl _) ⟨rfl, ?_⟩
                    first | exact h1 (by omega) | exact h2 (by omega) (by omega) (by omega) | exact h3 (by omega) (by omega) hok Dr fr hDr hbr (by omega) | exact h4 (by omega) (by omega) hok Dr fr hDr hbr (by omega) (by omega) (by omega) | exact h5 (by omega) (by omega) hok Dr fr hDr hbr (by omega) (by omega) _ (by omega)
                  · skip
                    refine pw_const r_1_send_117 ?_
                    refine pw_iret r_1_send_119 rfl (Nat.le_refl _) ⟨rfl, ?_⟩
                    first | exact h1 (by omega) | exact h2 (by omega) (by omega) (by omega) | exact h3 (by omega) (by omega) hok Dr fr hDr hbr (by omega) | exact h4 (by omega) (by omega) hok Dr fr hDr hbr (by omega) (by omega) (by omega) | exact h5 (by omega) (by omega) hok Dr fr hDr hbr (by omega) (by omega) _ (by omega)
              · skip
                have hok : ((gF G 3 (p) 8) = 0 ∧ (gF G 3 (p) 10) ≠ t ∧ (¬ (0 ≤ t ∧ t < (gF G 2 0 2)) ∨ ((gA G 41 0 (t)) = (gF G 3 (p) 2) ∧ cnt (fun i => (gF G 3 (i) 8) ≤ 1 ∧ (gF G 3 (i) 10) = t) (gF G 1 0 1) < (gA G 42 0 (t))))) := by omega
                have hDt := hDr.2.1 t (by omega) (by omega)
                have hDb := hbr t (by omega) (by omega)
                refine pw_const r_1_send_102 ?_
                refine pw_iret r_1_send_104 rfl (Nat.le_refl _) ⟨rfl, ?_⟩
                first | exact h1 (by omega) | exact h2 (by omega) (by omega) (by omega) | exact h3 (by omega) (by omega) hok Dr fr hDr hbr (by omega) | exact h4 (by omega) (by omega) hok Dr fr hDr hbr (by omega) (by omega) (by omega) | exact h5 (by omega) (by omega) hok Dr fr hDr hbr (by omega) (by omega) _ (by omega)
          · skip
            refine pw_aload r_1_send_56 rfl ?_
            refine pw_getR r_1_send_57 fs_1_4 (by decide) ?_
            refine pw_getR r_1_send_60 fs_2_0 (by decide) ?_
            refine pw_iload r_1_send_63 rfl ?_
            refine pw_iald r_1_send_64 sh41 (by omega) (by omega) ?_
            refine pw_aload r_1_send_65 rfl ?_
            refine pw_getI r_1_send_66 fs_3_2 (by decide) ?_
            refine pw_icmp_ne r_1_send_69 (fun h69 => ?_) (fun h69 => ?_)
            · skip
              refine pw_const r_1_send_80 ?_
              refine pw_iret r_1_send_82 rfl (Nat.le_refl _) ⟨rfl, ?_⟩
              first | exact h1 (by omega) | exact h2 (by omega) (by omega) (by omega) | exact h3 (by omega) (by omega) hok Dr fr hDr hbr (by omega) | exact h4 (by omega) (by omega) hok Dr fr hDr hbr (by omega) (by omega) (by omega) | exact h5 (by omega) (by omega) hok Dr fr hDr hbr (by omega) (by omega) _ (by omega)
            · skip
              refine pw_aload r_1_send_72 rfl ?_
              refine pw_iload r_1_send_73 rfl ?_
              refine pw_callV (av := [vI (t)]) (st := []) (ls0 := [some (vR 1 (0)), some (vI (t)), none, none, none]) r_1_send_74 rfl rfl rfl (Nat.le_refl _) ?_
              refine sp_X1_hasBed (by first | assumption | exact hp | omega) (by first | assumption | exact hsz | omega) (by first | assumption | exact hc | omega) ?_
              refine pw_if_neB r_1_send_77 (fun h77 => ?_) (fun h77 => ?_)
              · skip
                have hpl2 := hpl (by omega) (by omega)
                refine pw_aload r_1_send_83 rfl ?_
                refine pw_getR r_1_send_84 fs_1_4 (by decide) ?_
                refine pw_aload r_1_send_87 rfl ?_
                refine pw_getI r_1_send_88 fs_3_10 (by decide) ?_
                refine pw_iload r_1_send_91 rfl ?_
                refine pw_callV (av := [vI (gF G 3 (p) 10), vI (t)]) (st := []) (ls0 := [some (vR 2 (0)), some (vI (gF G 3 (p) 10)), some (vI (t)), none, none]) r_1_send_92 rfl rfl rfl (Nat.le_refl _) ?_
                refine sp_X2_farFrom (hc) (by first | assumption | exact hr | omega) ?_ ?_
                · skip
                  intro qf; exact absurd (show _ ∧ _ from ⟨by omega, by omega⟩) qf
                · skip
                  intro qf1 qf2 Dr fr hDr hbr rr hrr
                  refine pw_istore (ls' := [some (vR 1 (0)), some (vI (p)), some (vI (t)), some (vR 3 (p)), some (vI (b2i (0 ≤ t ∧ t < (gF G 2 0 2)))), some (vI (rr))]) r_1_send_95 rfl rfl ?_
                  refine pw_iload r_1_send_97 rfl ?_
                  refine pw_if_ge r_1_send_99 (fun h99 => ?_) (fun h99 => ?_)
                  · skip
                    have hok : ((gF G 3 (p) 8) = 0 ∧ (gF G 3 (p) 10) ≠ t ∧ (¬ (0 ≤ t ∧ t < (gF G 2 0 2)) ∨ ((gA G 41 0 (t)) = (gF G 3 (p) 2) ∧ cnt (fun i => (gF G 3 (i) 8) ≤ 1 ∧ (gF G 3 (i) 10) = t) (gF G 1 0 1) < (gA G 42 0 (t))))) := by omega
                    refine pw_iload r_1_send_105 rfl ?_
                    refine pw_if_eqB r_1_send_107 (fun h107 => ?_) (fun h107 => ?_)
                    · skip
                      refine pw_aload r_1_send_120 rfl ?_
                      refine pw_aload r_1_send_121 rfl ?_
                      refine pw_const r_1_send_122 ?_
                      refine pw_callV (av := [vR 3 (p), vI (1)]) (st := []) (ls0 := [some (vR 1 (0)), some (vR 3 (p)), some (vI (1)), none]) r_1_send_123 rfl rfl rfl (Nat.le_refl _) ?_
                      refine sp_X1_leave (hst) (hnum (by omega)) ?_
                      refine pw_eqG (G' := sF (sF (sF (sF (uA (uA (uA G 44 (0) (Dr)) 45 (0) (fr)) 35 (0) (filF (fun j0 => (gA G 32 (0) (j0)) = p ∧ (gA G 35 (0) (j0)) = -1) (fun j0 => (gF G 1 (0) 2)) (gA G 35 0) (gF G 1 (0) 3))) 3 (p) 8 (1)) 3 (p) 10 (-1)) 3 (p) 9 ((gF G 1 (0) 2))) 3 (p) 11 (-1)) (by first | rfl | simp (disch := decide) [gF_sF, gF_sA, gF_uA, gF_sD, gA_sF, gA_sA, gA_uA, gA_sD, gD_sF, gD_sA, gD_uA, gD_sD]) ?_
                      refine pw_aload r_1_send_126 rfl ?_
                      refine pw_iload r_1_send_127 rfl ?_
                      refine pw_putI r_1_send_128 (by decide +kernel) fs_3_10 (by decide) ?_
                      refine pw_aload r_1_send_131 rfl ?_
                      refine pw_aload r_1_send_132 rfl ?_
                      refine pw_getIv (v := gF G 1 (0) 2) r_1_send_133 fs_1_2 (by decide) (by first | rfl | simp [gF_sF, gF_sA, gF_uA, gF_sD, gA_sF, gA_sA, gA_uA, gA_sD, gD_sF, gD_sA, gD_uA, gD_sD]) ?_
                      refine pw_iload r_1_send_136 rfl ?_
                      refine pw_iadd r_1_send_138 (by omega) ?_
                      refine pw_putI r_1_send_139 (by decide +kernel) fs_3_11 (by decide) ?_
                      refine pw_aload r_1_send_142 rfl ?_
                      refine pw_getIv (v := ((gF G 1 (0) 2) + rr)) r_1_send_143 fs_3_11 (by decide) (by first | rfl | simp [gF_sF, gF_sA, gF_uA, gF_sD, gA_sF, gA_sA, gA_uA, gA_sD, gD_sF, gD_sA, gD_uA, gD_sD]) ?_
                      refine pw_iret r_1_send_146 rfl (Nat.le_refl _) ⟨rfl, ?_⟩
                      first | exact h1 (by omega) | exact h2 (by omega) (by omega) (by omega) | exact h3 (by omega) (by omega) hok Dr fr hDr hbr (by omega) | exact h4 (by omega) (by omega) hok Dr fr hDr hbr (by omega) (by omega) (by omega) | exact h5 (by omega) (by omega) hok Dr fr hDr hbr (by omega) (by omega) _ (by omega)
                    · skip
                      refine pw_aload r_1_send_110 rfl ?_
                      refine pw_callV (av := []) (st := []) (ls0 := [some (vR 1 (0)), none, none, none]) r_1_send_111 rfl rfl rfl (Nat.le_refl _) ?_
                      refine sp_X1_hasStay (hp) (hsz) (hst) (hc) ?_
                      refine pw_top (b := b2i ((gF G 1 (0) 3) + cnt (fun i => (gF G 3 (i) 8) = 1 ∧ 0 ≤ (gF G 3 (i) 10) ∧ (gF G 3 (i) 10) < (gF G 2 (0) 2)) (gF G 1 (0) 1) < 400)) (by first | rfl | simp (disch := decide) [gF_sF, gF_sA, gF_uA, gF_sD, gA_sF, gA_sA, gA_uA, gA_sD, gD_sF, gD_sA, gD_uA, gD_sD]) ?_
                      refine pw_if_neB r_1_send_114 (fun h114 => ?_) (fun h114 => ?_)
                      · skip
                        refine pw_aload r_1_send_120 rfl ?_
                        refine pw_aload r_1_send_121 rfl ?_
                        refine pw_const r_1_send_122 ?_
                        refine pw_callV (av := [vR 3 (p), vI (1)]) (st := []) (ls0 := [some (vR 1 (0)), some (vR 3 (p)), some (vI (1)), none]) r_1_send_123 rfl rfl rfl (Nat.le_refl _) ?_
                        refine sp_X1_leave (hst) (hnum (by omega)) ?_
                        refine pw_eqG (G' := sF (sF (sF (sF (uA (uA (uA G 44 (0) (Dr)) 45 (0) (fr)) 35 (0) (filF (fun j0 => (gA G 32 (0) (j0)) = p ∧ (gA G 35 (0) (j0)) = -1) (fun j0 => (gF G 1 (0) 2)) (gA G 35 0) (gF G 1 (0) 3))) 3 (p) 8 (1)) 3 (p) 10 (-1)) 3 (p) 9 ((gF G 1 (0) 2))) 3 (p) 11 (-1)) (by first | rfl | simp (disch := decide) [gF_sF, gF_sA, gF_uA, gF_sD, gA_sF, gA_sA, gA_uA, gA_sD, gD_sF, gD_sA, gD_uA, gD_sD]) ?_
                        refine pw_aload r_1_send_126 rfl ?_
                        refine pw_iload r_1_send_127 rfl ?_
                        refine pw_putI r_1_send_128 (by decide +kernel) fs_3_10 (by decide) ?_
                        refine pw_aload r_1_send_131 rfl ?_
                        refine pw_aload r_1_send_132 rfl ?_
                        refine pw_getIv (v := gF G 1 (0) 2) r_1_send_133 fs_1_2 (by decide) (by first | rfl | simp [gF_sF, gF_sA, gF_uA, gF_sD, gA_sF, gA_sA, gA_uA, gA_sD, gD_sF, gD_sA, gD_uA, gD_sD]) ?_
                        refine pw_iload r_1_send_136 rfl ?_
                        refine pw_iadd r_1_send_138 (by omega) ?_
                        refine pw_putI r_1_send_139 (by decide +kernel) fs_3_11 (by decide) ?_
                        refine pw_aload r_1_send_142 rfl ?_
                        refine pw_getIv (v := ((gF G 1 (0) 2) + rr)) r_1_send_143 fs_3_11 (by decide) (by first | rfl | simp [gF_sF, gF_sA, gF_uA, gF_sD, gA_sF, gA_sA, gA_uA, gA_sD, gD_sF, gD_sA, gD_uA, gD_sD]) ?_
                        refine pw_iret r_1_send_146 rfl (Nat.le_refl _) ⟨rfl, ?_⟩
                        first | exact h1 (by omega) | exact h2 (by omega) (by omega) (by omega) | exact h3 (by omega) (by omega) hok Dr fr hDr hbr (by omega) | exact h4 (by omega) (by omega) hok Dr fr hDr hbr (by omega) (by omega) (by omega) | exact h5 (by omega) (by omega) hok Dr fr hDr hbr (by omega) (by omega) _ (by omega)
                      · skip
                        refine pw_const r_1_send_117 ?_
                        refine pw_iret r_1_send_119 rfl (Nat.le_refl _) ⟨rfl, ?_⟩
                        first | exact h1 (by omega) | exact h2 (by omega) (by omega) (by omega) | exact h3 (by omega) (by omega) hok Dr fr hDr hbr (by omega) | exact h4 (by omega) (by omega) hok Dr fr hDr hbr (by omega) (by omega) (by omega) | exact h5 (by omega) (by omega) hok Dr fr hDr hbr (by omega) (by omega) _ (by omega)
                  · skip
                    have hok : ((gF G 3 (p) 8) = 0 ∧ (gF G 3 (p) 10) ≠ t ∧ (¬ (0 ≤ t ∧ t < (gF G 2 0 2)) ∨ ((gA G 41 0 (t)) = (gF G 3 (p) 2) ∧ cnt (fun i => (gF G 3 (i) 8) ≤ 1 ∧ (gF G 3 (i) 10) = t) (gF G 1 0 1) < (gA G 42 0 (t))))) := by omega
                    have hDt := hDr.2.1 t (by omega) (by omega)
                    have hDb := hbr t (by omega) (by omega)
                    refine pw_const r_1_send_102 ?_
                    refine pw_iret r_1_send_104 rfl (Nat.le_refl _) ⟨rfl, ?_⟩
                    first | exact h1 (by omega) | exact h2 (by omega) (by omega) (by omega) | exact h3 (by omega) (by omega) hok Dr fr hDr hbr (by omega) | exact h4 (by omega) (by omega) hok Dr fr hDr hbr (by omega) (by omega) (by omega) | exact h5 (by omega) (by omega) hok Dr fr hDr hbr (by omega) (by omega) _ (by omega)
              · skip
                refine pw_const r_1_send_80 ?_
                refine pw_iret r_1_send_82 rfl (Nat.le_refl _) ⟨rfl, ?_⟩
                first | exact h1 (by omega) | exact h2 (by omega) (by omega) (by omega) | exact h3 (by omega) (by omega) hok Dr fr hDr hbr (by omega) | exact h4 (by omega) (by omega) hok Dr fr hDr hbr (by omega) (by omega) (by omega) | exact h5 (by omega) (by omega) hok Dr fr hDr hbr (by omega) (by omega) _ (by omega)
        · skip
          refine pw_const r_1_send_48 ?_
          refine pw_iret r_1_send_50 rfl (Nat.le_refl _) ⟨rfl, ?_⟩
          first | exact h1 (by omega) | exact h2 (by omega) (by omega) (by omega) | exact h3 (by omega) (by omega) hok Dr fr hDr hbr (by omega) | exact h4 (by omega) (by omega) hok Dr fr hDr hbr (by omega) (by omega) (by omega) | exact h5 (by omega) (by omega) hok Dr fr hDr hbr (by omega) (by omega) _ (by omega)
    · skip
      refine pw_const r_1_send_21 ?_
      refine pw_iret r_1_send_22 rfl (Nat.le_refl _) ⟨rfl, ?_⟩
      first | exact h1 (by omega) | exact h2 (by omega) (by omega) (by omega) | exact h3 (by omega) (by omega) hok Dr fr hDr hbr (by omega) | exact h4 (by omega) (by omega) hok Dr fr hDr hbr (by omega) (by omega) (by omega) | exact h5 (by omega) (by omega) hok Dr fr hDr hbr (by omega) (by omega) _ (by omega)
set_option maxRecDepth 10000 in
theorem sp_X12_move {l : Launch} {w : Wo} {d : Nat} {G : PH} {P : Option PV → PH → Prop} {p t : Int} (hsz : 0 ≤ (gF G 12 0 17) ∧ (gF G 12 0 17) ≤ 150) (hst : 0 ≤ (gF G 12 0 22) ∧ (gF G 12 0 22) ≤ 400) (hpl : (0 ≤ p ∧ p < (gF G 12 0 17)) → (gA G 206 0 (p)) = 0 → 0 ≤ (gA G 207 0 (p)) ∧ (gA G 207 0 (p)) < (gF G 12 0 3)) (hday : 0 ≤ (gF G 12 0 0) ∧ (gF G 12 0 0) ≤ 600) (hc : 0 ≤ (gF G 12 0 3) ∧ (gF G 12 0 3) ≤ 16) (hr : ∀ k, 0 ≤ k → k < 324 → 0 ≤ (gA G 202 0 (k)) ∧ (gA G 202 0 (k)) ≤ 9) (h1 : ¬ ((0 ≤ p ∧ p < (gF G 12 0 17)) ∧ ((0 ≤ t ∧ t < (gF G 12 0 3)) ∨ t = 16 ∨ t = 17)) → P (some (vI (-1))) G) (h2 : (0 ≤ p ∧ p < (gF G 12 0 17)) → ((0 ≤ t ∧ t < (gF G 12 0 3)) ∨ t = 16 ∨ t = 17) → ¬ ((gA G 206 0 (p)) = 0 ∧ (gA G 207 0 (p)) ≠ t ∧ (16 ≤ t ∨ ((gA G 200 0 (t)) = (gA G 205 0 (p)) ∧ cnt (fun i => (gA G 206 0 (i)) ≤ 1 ∧ (gA G 207 0 (i)) = t) (gF G 12 0 17) < (gA G 201 0 (t))))) → P (some (vI (-3))) G) (h3 : (0 ≤ p ∧ p < (gF G 12 0 17)) → ((0 ≤ t ∧ t < (gF G 12 0 3)) ∨ t = 16 ∨ t = 17) → ((gA G 206 0 (p)) = 0 ∧ (gA G 207 0 (p)) ≠ t ∧ (16 ≤ t ∨ ((gA G 200 0 (t)) = (gA G 205 0 (p)) ∧ cnt (fun i => (gA G 206 0 (i)) ≤ 1 ∧ (gA G 207 0 (i)) = t) (gF G 12 0 17) < (gA G 201 0 (t))))) → ∀ Dr, IsD (fun u v => (gA G 202 0 (18 * u + v))) (fun u => u = (gA G 207 0 (p)) ∨ 16 ≤ u ∨ (gA G 200 0 (u)) = (gA G 200 0 ((gA G 207 0 (p))))) (gA G 207 0 (p)) 100000 Dr → 100000 ≤ Dr t → P (some (vI (-4))) (uA G 234 0 Dr)) (h4 : (0 ≤ p ∧ p < (gF G 12 0 17)) → ((0 ≤ t ∧ t < (gF G 12 0 3)) ∨ t = 16 ∨ t = 17) → ((gA G 206 0 (p)) = 0 ∧ (gA G 207 0 (p)) ≠ t ∧ (16 ≤ t ∨ ((gA G 200 0 (t)) = (gA G 205 0 (p)) ∧ cnt (fun i => (gA G 206 0 (i)) ≤ 1 ∧ (gA G 207 0 (i)) = t) (gF G 12 0 17) < (gA G 201 0 (t))))) → ∀ Dr, IsD (fun u v => (gA G 202 0 (18 * u + v))) (fun u => u = (gA G 207 0 (p)) ∨ 16 ≤ u ∨ (gA G 200 0 (u)) = (gA G 200 0 ((gA G 207 0 (p))))) (gA G 207 0 (p)) 100000 Dr → Dr t < 100000 → t < 16 → (gF G 12 0 22) + cnt (fun i => (gA G 206 0 (i)) = 1 ∧ (gA G 207 0 (i)) < 16) (gF G 12 0 17) = 400 → P (some (vI (-2))) (uA G 234 0 Dr)) (h5 : (0 ≤ p ∧ p < (gF G 12 0 17)) → ((0 ≤ t ∧ t < (gF G 12 0 3)) ∨ t = 16 ∨ t = 17) → ((gA G 206 0 (p)) = 0 ∧ (gA G 207 0 (p)) ≠ t ∧ (16 ≤ t ∨ ((gA G 200 0 (t)) = (gA G 205 0 (p)) ∧ cnt (fun i => (gA G 206 0 (i)) ≤ 1 ∧ (gA G 207 0 (i)) = t) (gF G 12 0 17) < (gA G 201 0 (t))))) → ∀ Dr, IsD (fun u v => (gA G 202 0 (18 * u + v))) (fun u => u = (gA G 207 0 (p)) ∨ 16 ≤ u ∨ (gA G 200 0 (u)) = (gA G 200 0 ((gA G 207 0 (p))))) (gA G 207 0 (p)) 100000 Dr → Dr t < 100000 → (16 ≤ t ∨ (gF G 12 0 22) + cnt (fun i => (gA G 206 0 (i)) = 1 ∧ (gA G 207 0 (i)) < 16) (gF G 12 0 17) ≠ 400) → P (some (vI ((gF G 12 0 0) + Dr t))) (sA (sA (sA (sA (sA (uA (uA G 234 0 Dr) 218 0 (filF (fun j0 => (gA G 215 0 (j0)) = p ∧ (gA G 218 0 (j0)) < 0) (fun j0 => (gF G 12 0 0)) (gA G 218 0) (gF G 12 0 22))) 206 0 (p) (1)) 213 0 (p) ((gF G 12 0 0))) 214 0 (p) (-1)) 207 0 (p) (t)) 214 0 (p) ((gF G 12 0 0) + Dr t))) : PW l w M_X12_move (d + 2) 0 [some (vR 12 (0)), some (vI (p)), some (vI (t)), none] [] G P := by
  refine pw_aload r_12_move_0 rfl ?_
  refine pw_iload r_12_move_1 rfl ?_
  refine pw_callV (av := [vI (p)]) (st := []) (ls0 := [some (vR 12 (0)), some (vI (p))]) r_12_move_2 rfl rfl rfl (Nat.le_refl _) ?_
  refine sp_X12_isPerson  ?_
  refine pw_if_eqB r_12_move_5 (fun h05 => ?_) (fun h05 => ?_)
  · skip
    refine pw_const r_12_move_16 ?_
    refine pw_iret r_12_move_17 rfl (Nat.le_refl _) ⟨rfl, ?_⟩
    first | exact h1 (by omega) | exact h2 (by omega) (by omega) (by omega) | exact h3 (by omega) (by omega) hok Dr hDr (by omega) | exact h4 (by omega) (by omega) hok Dr hDr (by omega) (by omega) (by omega) | exact h5 (by omega) (by omega) hok Dr hDr (by omega) (by omega)
  · skip
    refine pw_aload r_12_move_8 rfl ?_
    refine pw_iload r_12_move_9 rfl ?_
    refine pw_callV (av := [vI (t)]) (st := []) (ls0 := [some (vR 12 (0)), some (vI (t))]) r_12_move_10 rfl rfl rfl (Nat.le_refl _) ?_
    refine sp_X12_isPoint  ?_
    refine pw_if_neB r_12_move_13 (fun h13 => ?_) (fun h13 => ?_)
    · skip
      refine pw_aload r_12_move_18 rfl ?_
      refine pw_getR r_12_move_19 fs_12_8 (by decide) ?_
      refine pw_iload r_12_move_22 rfl ?_
      refine pw_iald r_12_move_23 sh206 (by omega) (by omega) ?_
      refine pw_if_ne r_12_move_24 (fun h24 => ?_) (fun h24 => ?_)
      · skip
        refine pw_const r_12_move_72 ?_
        refine pw_iret r_12_move_74 rfl (Nat.le_refl _) ⟨rfl, ?_⟩
        first | exact h1 (by omega) | exact h2 (by omega) (by omega) (by omega) | exact h3 (by omega) (by omega) hok Dr hDr (by omega) | exact h4 (by omega) (by omega) hok Dr hDr (by omega) (by omega) (by omega) | exact h5 (by omega) (by omega) hok Dr hDr (by omega) (by omega)
      · skip
        refine pw_aload r_12_move_27 rfl ?_
        refine pw_getR r_12_move_28 fs_12_9 (by decide) ?_
        refine pw_iload r_12_move_31 rfl ?_
        refine pw_iald r_12_move_32 sh207 (by omega) (by omega) ?_
        refine pw_iload r_12_move_33 rfl ?_
        refine pw_icmp_eq r_12_move_34 (fun h34 => ?_) (fun h34 => ?_)
        · skip
          refine pw_const r_12_move_72 ?_
          refine pw_iret r_12_move_74 rfl (Nat.le_refl _) ⟨rfl, ?_⟩
          first | exact h1 (by omega) | exact h2 (by omega) (by omega) (by omega) | exact h3 (by omega) (by omega) hok Dr hDr (by omega) | exact h4 (by omega) (by omega) hok Dr hDr (by omega) (by omega) (by omega) | exact h5 (by omega) (by omega) hok Dr hDr (by omega) (by omega)
        · skip
          refine pw_iload r_12_move_37 rfl ?_
          refine pw_const r_12_move_38 ?_
          refine pw_icmp_ge r_12_move_40 (fun h40 => ?_) (fun h40 => ?_)
          · skip
            have hok : ((gA G 206 0 (p)) = 0 ∧ (gA G 207 0 (p)) ≠ t ∧ (16 ≤ t ∨ ((gA G 200 0 (t)) = (gA G 205 0 (p)) ∧ cnt (fun i => (gA G 206 0 (i)) ≤ 1 ∧ (gA G 207 0 (i)) = t) (gF G 12 0 17) < (gA G 201 0 (t))))) := by omega
            have hpl2 := hpl (by omega) (by omega)
            refine pw_aload r_12_move_75 rfl ?_
            refine pw_aload r_12_move_76 rfl ?_
            refine pw_getR r_12_move_77 fs_12_9 (by decide) ?_
            refine pw_iload r_12_move_80 rfl ?_
            refine pw_iald r_12_move_81 sh207 (by omega) (by omega) ?_
            refine pw_iload r_12_move_82 rfl ?_
            refine pw_callV (av := [vI (gA G 207 (0) (p)), vI (t)]) (st := []) (ls0 := [some (vR 12 (0)), some (vI (gA G 207 (0) (p))), some (vI (t)), none, none, none, none, none]) r_12_move_83 rfl rfl rfl (Nat.le_refl _) ?_
            refine sp_X12_farOf (by first | assumption | exact hc | omega) (by first | assumption | exact hp | omega) (by first | assumption | exact hr | omega) ?_
            intro Dr hDr
            refine pw_istore (ls' := [some (vR 12 (0)), some (vI (p)), some (vI (t)), some (vI ((Dr t)))]) r_12_move_86 rfl rfl ?_
            have hDt := hDr.2.1 t (by omega) (by omega)
            refine pw_iload r_12_move_87 rfl ?_
            refine pw_const r_12_move_88 ?_
            refine pw_icmp_lt r_12_move_91 (fun h91 => ?_) (fun h91 => ?_)
            · skip
              refine pw_iload r_12_move_97 rfl ?_
              refine pw_const r_12_move_98 ?_
              refine pw_icmp_ge r_12_move_100 (fun h100 => ?_) (fun h100 => ?_)
              · skip
                refine pw_aload r_12_move_121 rfl ?_
                refine pw_iload r_12_move_122 rfl ?_
                refine pw_const r_12_move_123 ?_
                refine pw_callV (av := [vI (p), vI (1)]) (st := []) (ls0 := [some (vR 12 (0)), some (vI (p)), some (vI (1)), none]) r_12_move_124 rfl rfl rfl (Nat.le_refl _) ?_
                refine sp_X12_becomes (hst) (by first | assumption | exact hp | omega) ?_ ?_
                · skip
                  intro qf; exact absurd hok.1 qf
                · skip
                  intro qf
                  refine pw_eqG (G' := sA (sA (sA (uA (uA G 234 (0) (Dr)) 218 (0) (filF (fun j0 => (gA G 215 (0) (j0)) = p ∧ (gA G 218 (0) (j0)) < 0) (fun j0 => (gF G 12 (0) 0)) (gA G 218 0) (gF G 12 (0) 22))) 206 (0) (p) (1)) 213 (0) (p) ((gF G 12 (0) 0))) 214 (0) (p) (-1)) (by first | rfl | simp (disch := decide) [gF_sF, gF_sA, gF_uA, gF_sD, gA_sF, gA_sA, gA_uA, gA_sD, gD_sF, gD_sA, gD_uA, gD_sD]) ?_
                  refine pw_aload r_12_move_127 rfl ?_
                  refine pw_getR r_12_move_128 fs_12_9 (by decide) ?_
                  refine pw_iload r_12_move_131 rfl ?_
                  refine pw_iload r_12_move_132 rfl ?_
                  refine pw_iast r_12_move_133 sh207 (by omega) (by omega) ?_
                  refine pw_aload r_12_move_134 rfl ?_
                  refine pw_getR r_12_move_135 fs_12_16 (by decide) ?_
                  refine pw_iload r_12_move_138 rfl ?_
                  refine pw_aload r_12_move_139 rfl ?_
                  refine pw_getIv (v := gF G 12 (0) 0) r_12_move_140 fs_12_0 (by decide) (by first | rfl | simp [gF_sF, gF_sA, gF_uA, gF_sD, gA_sF, gA_sA, gA_uA, gA_sD, gD_sF, gD_sA, gD_uA, gD_sD]) ?_
                  refine pw_iload r_12_move_143 rfl ?_
                  refine pw_iadd r_12_move_144 (by omega) ?_
                  refine pw_iast r_12_move_145 sh214 (by omega) (by omega) ?_
                  refine pw_aload r_12_move_146 rfl ?_
                  refine pw_getR r_12_move_147 fs_12_16 (by decide) ?_
                  refine pw_iload r_12_move_150 rfl ?_
                  refine pw_ialdv (v := ((gF G 12 (0) 0) + (Dr t))) r_12_move_151 sh214 (by omega) (by omega) (by first | rfl | simp [gF_sF, gF_sA, gF_uA, gF_sD, gA_sF, gA_sA, gA_uA, gA_sD, gD_sF, gD_sA, gD_uA, gD_sD]) ?_
                  refine pw_iret r_12_move_152 rfl (Nat.le_refl _) ⟨rfl, ?_⟩
                  first | exact h1 (by omega) | exact h2 (by omega) (by omega) (by omega) | exact h3 (by omega) (by omega) hok Dr hDr (by omega) | exact h4 (by omega) (by omega) hok Dr hDr (by omega) (by omega) (by omega) | exact h5 (by omega) (by omega) hok Dr hDr (by omega) (by omega)
              · skip
                have hcw := cnt_le (fun i => (gA G 206 0 (i)) = 1 ∧ (gA G 207 0 (i)) < 16) hsz.1
                refine pw_aload r_12_move_103 rfl ?_
                refine pw_getIv (v := gF G 12 (0) 22) r_12_move_104 fs_12_22 (by decide) (by first | rfl | simp [gF_sF, gF_sA, gF_uA, gF_sD, gA_sF, gA_sA, gA_uA, gA_sD, gD_sF, gD_sA, gD_uA, gD_sD]) ?_
                refine pw_aload r_12_move_107 rfl ?_
                refine pw_callV (av := []) (st := [vI (gF G 12 (0) 22)]) (ls0 := [some (vR 12 (0)), none, none]) r_12_move_108 rfl rfl rfl (Nat.le_refl _) ?_
                refine sp_X12_onTheWay (hsz) ?_
                refine pw_top (b := cnt (fun i => (gA G 206 (0) (i)) = 1 ∧ (gA G 207 (0) (i)) < 16) (gF G 12 (0) 17)) (by first | rfl | simp (disch := decide) [gF_sF, gF_sA, gF_uA, gF_sD, gA_sF, gA_sA, gA_uA, gA_sD, gD_sF, gD_sA, gD_uA, gD_sD]) ?_
                refine pw_iadd r_12_move_111 (by omega) ?_
                refine pw_const r_12_move_112 ?_
                refine pw_icmp_ne r_12_move_115 (fun h115 => ?_) (fun h115 => ?_)
                · skip
                  refine pw_aload r_12_move_121 rfl ?_
                  refine pw_iload r_12_move_122 rfl ?_
                  refine pw_const r_12_move_123 ?_
                  refine pw_callV (av := [vI (p), vI (1)]) (st := []) (ls0 := [some (vR 12 (0)), some (vI (p)), some (vI (1)), none]) r_12_move_124 rfl rfl rfl (Nat.le_refl _) ?_
                  refine sp_X12_becomes (hst) (by first | assumption | exact hp | omega) ?_ ?_
                  · skip
                    intro qf; exact absurd hok.1 qf
                  · skip
                    intro qf
                    refine pw_eqG (G' := sA (sA (sA (uA (uA G 234 (0) (Dr)) 218 (0) (filF (fun j0 => (gA G 215 (0) (j0)) = p ∧ (gA G 218 (0) (j0)) < 0) (fun j0 => (gF G 12 (0) 0)) (gA G 218 0) (gF G 12 (0) 22))) 206 (0) (p) (1)) 213 (0) (p) ((gF G 12 (0) 0))) 214 (0) (p) (-1)) (by first | rfl | simp (disch := decide) [gF_sF, gF_sA, gF_uA, gF_sD, gA_sF, gA_sA, gA_uA, gA_sD, gD_sF, gD_sA, gD_uA, gD_sD]) ?_
                    refine pw_aload r_12_move_127 rfl ?_
                    refine pw_getR r_12_move_128 fs_12_9 (by decide) ?_
                    refine pw_iload r_12_move_131 rfl ?_
                    refine pw_iload r_12_move_132 rfl ?_
                    refine pw_iast r_12_move_133 sh207 (by omega) (by omega) ?_
                    refine pw_aload r_12_move_134 rfl ?_
                    refine pw_getR r_12_move_135 fs_12_16 (by decide) ?_
                    refine pw_iload r_12_move_138 rfl ?_
                    refine pw_aload r_12_move_139 rfl ?_
                    refine pw_getIv (v := gF G 12 (0) 0) r_12_move_140 fs_12_0 (by decide) (by first | rfl | simp [gF_sF, gF_sA, gF_uA, gF_sD, gA_sF, gA_sA, gA_uA, gA_sD, gD_sF, gD_sA, gD_uA, gD_sD]) ?_
                    refine pw_iload r_12_move_143 rfl ?_
                    refine pw_iadd r_12_move_144 (by omega) ?_
                    refine pw_iast r_12_move_145 sh214 (by omega) (by omega) ?_
                    refine pw_aload r_12_move_146 rfl ?_
                    refine pw_getR r_12_move_147 fs_12_16 (by decide) ?_
                    refine pw_iload r_12_move_150 rfl ?_
                    refine pw_ialdv (v := ((gF G 12 (0) 0) + (Dr t))) r_12_move_151 sh214 (by omega) (by omega) (by first | rfl | simp [gF_sF, gF_sA, gF_uA, gF_sD, gA_sF, gA_sA, gA_uA, gA_sD, gD_sF, gD_sA, gD_uA, gD_sD]) ?_
                    refine pw_iret r_12_move_152 rfl (Nat.le_refl _) ⟨rfl, ?_⟩
                    first | exact h1 (by omega) | exact h2 (by omega) (by omega) (by omega) | exact h3 (by omega) (by omega) hok Dr hDr (by omega) | exact h4 (by omega) (by omega) hok Dr hDr (by omega) (by omega) (by omega) | exact h5 (by omega) (by omega) hok Dr hDr (by omega) (by omega)
                · skip
                  refine pw_const r_12_move_118 ?_
                  refine pw_iret r_12_move_120 rfl (Nat.le_refl _) ⟨rfl, ?_⟩
                  first | exact h1 (by omega) | exact h2 (by omega) (by omega) (by omega) | exact h3 (by omega) (by omega) hok Dr hDr (by omega) | exact h4 (by omega) (by omega) hok Dr hDr (by omega) (by omega) (by omega) | exact h5 (by omega) (by omega) hok Dr hDr (by omega) (by omega)
            · skip
              refine pw_const r_12_move_94 ?_
              refine pw_iret r_12_move_96 rfl (Nat.le_refl _) ⟨rfl, ?_⟩
              first | exact h1 (by omega) | exact h2 (by omega) (by omega) (by omega) | exact h3 (by omega) (by omega) hok Dr hDr (by omega) | exact h4 (by omega) (by omega) hok Dr hDr (by omega) (by omega) (by omega) | exact h5 (by omega) (by omega) hok Dr hDr (by omega) (by omega)
          · skip
            refine pw_aload r_12_move_43 rfl ?_
            refine pw_getR r_12_move_44 fs_12_1 (by decide) ?_
            refine pw_iload r_12_move_47 rfl ?_
            refine pw_iald r_12_move_48 sh200 (by omega) (by omega) ?_
            refine pw_aload r_12_move_49 rfl ?_
            refine pw_getR r_12_move_50 fs_12_7 (by decide) ?_
            refine pw_iload r_12_move_53 rfl ?_
            refine pw_iald r_12_move_54 sh205 (by omega) (by omega) ?_
            refine pw_icmp_ne r_12_move_55 (fun h55 => ?_) (fun h55 => ?_)
            · skip
              refine pw_const r_12_move_72 ?_
              refine pw_iret r_12_move_74 rfl (Nat.le_refl _) ⟨rfl, ?_⟩
              first | exact h1 (by omega) | exact h2 (by omega) (by omega) (by omega) | exact h3 (by omega) (by omega) hok Dr hDr (by omega) | exact h4 (by omega) (by omega) hok Dr hDr (by omega) (by omega) (by omega) | exact h5 (by omega) (by omega) hok Dr hDr (by omega) (by omega)
            · skip
              refine pw_aload r_12_move_58 rfl ?_
              refine pw_iload r_12_move_59 rfl ?_
              refine pw_callV (av := [vI (t)]) (st := []) (ls0 := [some (vR 12 (0)), some (vI (t)), none, none]) r_12_move_60 rfl rfl rfl (Nat.le_refl _) ?_
              refine sp_X12_inBeds (by first | assumption | exact hsz | omega) ?_
              refine pw_aload r_12_move_63 rfl ?_
              refine pw_getR r_12_move_64 fs_12_2 (by decide) ?_
              refine pw_iload r_12_move_67 rfl ?_
              refine pw_iald r_12_move_68 sh201 (by omega) (by omega) ?_
              refine pw_icmp_lt r_12_move_69 (fun h69 => ?_) (fun h69 => ?_)
              · skip
                have hok : ((gA G 206 0 (p)) = 0 ∧ (gA G 207 0 (p)) ≠ t ∧ (16 ≤ t ∨ ((gA G 200 0 (t)) = (gA G 205 0 (p)) ∧ cnt (fun i => (gA G 206 0 (i)) ≤ 1 ∧ (gA G 207 0 (i)) = t) (gF G 12 0 17) < (gA G 201 0 (t))))) := by omega
                have hpl2 := hpl (by omega) (by omega)
                refine pw_aload r_12_move_75 rfl ?_
                refine pw_aload r_12_move_76 rfl ?_
                refine pw_getR r_12_move_77 fs_12_9 (by decide) ?_
                refine pw_iload r_12_move_80 rfl ?_
                refine pw_iald r_12_move_81 sh207 (by omega) (by omega) ?_
                refine pw_iload r_12_move_82 rfl ?_
                refine pw_callV (av := [vI (gA G 207 (0) (p)), vI (t)]) (st := []) (ls0 := [some (vR 12 (0)), some (vI (gA G 207 (0) (p))), some (vI (t)), none, none, none, none, none]) r_12_move_83 rfl rfl rfl (Nat.le_refl _) ?_
                refine sp_X12_farOf (by first | assumption | exact hc | omega) (by first | assumption | exact hp | omega) (by first | assumption | exact hr | omega) ?_
                intro Dr hDr
                refine pw_istore (ls' := [some (vR 12 (0)), some (vI (p)), some (vI (t)), some (vI ((Dr t)))]) r_12_move_86 rfl rfl ?_
                have hDt := hDr.2.1 t (by omega) (by omega)
                refine pw_iload r_12_move_87 rfl ?_
                refine pw_const r_12_move_88 ?_
                refine pw_icmp_lt r_12_move_91 (fun h91 => ?_) (fun h91 => ?_)
                · skip
                  refine pw_iload r_12_move_97 rfl ?_
                  refine pw_const r_12_move_98 ?_
                  refine pw_icmp_ge r_12_move_100 (fun h100 => ?_) (fun h100 => ?_)
                  · skip
                    refine pw_aload r_12_move_121 rfl ?_
                    refine pw_iload r_12_move_122 rfl ?_
                    refine pw_const r_12_move_123 ?_
                    refine pw_callV (av := [vI (p), vI (1)]) (st := []) (ls0 := [some (vR 12 (0)), some (vI (p)), some (vI (1)), none]) r_12_move_124 rfl rfl rfl (Nat.le_refl _) ?_
                    refine sp_X12_becomes (hst) (by first | assumption | exact hp | omega) ?_ ?_
                    · skip
                      intro qf; exact absurd hok.1 qf
                    · skip
                      intro qf
                      refine pw_eqG (G' := sA (sA (sA (uA (uA G 234 (0) (Dr)) 218 (0) (filF (fun j0 => (gA G 215 (0) (j0)) = p ∧ (gA G 218 (0) (j0)) < 0) (fun j0 => (gF G 12 (0) 0)) (gA G 218 0) (gF G 12 (0) 22))) 206 (0) (p) (1)) 213 (0) (p) ((gF G 12 (0) 0))) 214 (0) (p) (-1)) (by first | rfl | simp (disch := decide) [gF_sF, gF_sA, gF_uA, gF_sD, gA_sF, gA_sA, gA_uA, gA_sD, gD_sF, gD_sA, gD_uA, gD_sD]) ?_
                      refine pw_aload r_12_move_127 rfl ?_
                      refine pw_getR r_12_move_128 fs_12_9 (by decide) ?_
                      refine pw_iload r_12_move_131 rfl ?_
                      refine pw_iload r_12_move_132 rfl ?_
                      refine pw_iast r_12_move_133 sh207 (by omega) (by omega) ?_
                      refine pw_aload r_12_move_134 rfl ?_
                      refine pw_getR r_12_move_135 fs_12_16 (by decide) ?_
                      refine pw_iload r_12_move_138 rfl ?_
                      refine pw_aload r_12_move_139 rfl ?_
                      refine pw_getIv (v := gF G 12 (0) 0) r_12_move_140 fs_12_0 (by decide) (by first | rfl | simp [gF_sF, gF_sA, gF_uA, gF_sD, gA_sF, gA_sA, gA_uA, gA_sD, gD_sF, gD_sA, gD_uA, gD_sD]) ?_
                      refine pw_iload r_12_move_143 rfl ?_
                      refine pw_iadd r_12_move_144 (by omega) ?_
                      refine pw_iast r_12_move_145 sh214 (by omega) (by omega) ?_
                      refine pw_aload r_12_move_146 rfl ?_
                      refine pw_getR r_12_move_147 fs_12_16 (by decide) ?_
                      refine pw_iload r_12_move_150 rfl ?_
                      refine pw_ialdv (v := ((gF G 12 (0) 0) + (Dr t))) r_12_move_151 sh214 (by omega) (by omega) (by first | rfl | simp [gF_sF, gF_sA, gF_uA, gF_sD, gA_sF, gA_sA, gA_uA, gA_sD, gD_sF, gD_sA, gD_uA, gD_sD]) ?_
                      refine pw_iret r_12_move_152 rfl (Nat.le_refl _) ⟨rfl, ?_⟩
                      first | exact h1 (by omega) | exact h2 (by omega) (by omega) (by omega) | exact h3 (by omega) (by omega) hok Dr hDr (by omega) | exact h4 (by omega) (by omega) hok Dr hDr (by omega) (by omega) (by omega) | exact h5 (by omega) (by omega) hok Dr hDr (by omega) (by omega)
                  · skip
                    have hcw := cnt_le (fun i => (gA G 206 0 (i)) = 1 ∧ (gA G 207 0 (i)) < 16) hsz.1
                    refine pw_aload r_12_move_103 rfl ?_
                    refine pw_getIv (v := gF G 12 (0) 22) r_12_move_104 fs_12_22 (by decide) (by first | rfl | simp [gF_sF, gF_sA, gF_uA, gF_sD, gA_sF, gA_sA, gA_uA, gA_sD, gD_sF, gD_sA, gD_uA, gD_sD]) ?_
                    refine pw_aload r_12_move_107 rfl ?_
                    refine pw_callV (av := []) (st := [vI (gF G 12 (0) 22)]) (ls0 := [some (vR 12 (0)), none, none]) r_12_move_108 rfl rfl rfl (Nat.le_refl _) ?_
                    refine sp_X12_onTheWay (hsz) ?_
                    refine pw_top (b := cnt (fun i => (gA G 206 (0) (i)) = 1 ∧ (gA G 207 (0) (i)) < 16) (gF G 12 (0) 17)) (by first | rfl | simp (disch := decide) [gF_sF, gF_sA, gF_uA, gF_sD, gA_sF, gA_sA, gA_uA, gA_sD, gD_sF, gD_sA, gD_uA, gD_sD]) ?_
                    refine pw_iadd r_12_move_111 (by omega) ?_
                    refine pw_const r_12_move_112 ?_
                    refine pw_icmp_ne r_12_move_115 (fun h115 => ?_) (fun h115 => ?_)
                    · skip
                      refine pw_aload r_12_move_121 rfl ?_
                      refine pw_iload r_12_move_122 rfl ?_
                      refine pw_const r_12_move_123 ?_
                      refine pw_callV (av := [vI (p), vI (1)]) (st := []) (ls0 := [some (vR 12 (0)), some (vI (p)), some (vI (1)), none]) r_12_move_124 rfl rfl rfl (Nat.le_refl _) ?_
                      refine sp_X12_becomes (hst) (by first | assumption | exact hp | omega) ?_ ?_
                      · skip
                        intro qf; exact absurd hok.1 qf
                      · skip
                        intro qf
                        refine pw_eqG (G' := sA (sA (sA (uA (uA G 234 (0) (Dr)) 218 (0) (filF (fun j0 => (gA G 215 (0) (j0)) = p ∧ (gA G 218 (0) (j0)) < 0) (fun j0 => (gF G 12 (0) 0)) (gA G 218 0) (gF G 12 (0) 22))) 206 (0) (p) (1)) 213 (0) (p) ((gF G 12 (0) 0))) 214 (0) (p) (-1)) (by first | rfl | simp (disch := decide) [gF_sF, gF_sA, gF_uA, gF_sD, gA_sF, gA_sA, gA_uA, gA_sD, gD_sF, gD_sA, gD_uA, gD_sD]) ?_
                        refine pw_aload r_12_move_127 rfl ?_
                        refine pw_getR r_12_move_128 fs_12_9 (by decide) ?_
                        refine pw_iload r_12_move_131 rfl ?_
                        refine pw_iload r_12_move_132 rfl ?_
                        refine pw_iast r_12_move_133 sh207 (by omega) (by omega) ?_
                        refine pw_aload r_12_move_134 rfl ?_
                        refine pw_getR r_12_move_135 fs_12_16 (by decide) ?_
                        refine pw_iload r_12_move_138 rfl ?_
                        refine pw_aload r_12_move_139 rfl ?_
                        refine pw_getIv (v := gF G 12 (0) 0) r_12_move_140 fs_12_0 (by decide) (by first | rfl | simp [gF_sF, gF_sA, gF_uA, gF_sD, gA_sF, gA_sA, gA_uA, gA_sD, gD_sF, gD_sA, gD_uA, gD_sD]) ?_
                        refine pw_iload r_12_move_143 rfl ?_
                        refine pw_iadd r_12_move_144 (by omega) ?_
                        refine pw_iast r_12_move_145 sh214 (by omega) (by omega) ?_
                        refine pw_aload r_12_move_146 rfl ?_
                        refine pw_getR r_12_move_147 fs_12_16 (by decide) ?_
                        refine pw_iload r_12_move_150 rfl ?_
                        refine pw_ialdv (v := ((gF G 12 (0) 0) + (Dr t))) r_12_move_151 sh214 (by omega) (by omega) (by first | rfl | simp [gF_sF, gF_sA, gF_uA, gF_sD, gA_sF, gA_sA, gA_uA, gA_sD, gD_sF, gD_sA, gD_uA, gD_sD]) ?_
                        refine pw_iret r_12_move_152 rfl (Nat.le_refl _) ⟨rfl, ?_⟩
                        first | exact h1 (by omega) | exact h2 (by omega) (by omega) (by omega) | exact h3 (by omega) (by omega) hok Dr hDr (by omega) | exact h4 (by omega) (by omega) hok Dr hDr (by omega) (by omega) (by omega) | exact h5 (by omega) (by omega) hok Dr hDr (by omega) (by omega)
                    · skip
                      refine pw_const r_12_move_118 ?_
                      refine pw_iret r_12_move_120 rfl (Nat.le_refl _) ⟨rfl, ?_⟩
                      first | exact h1 (by omega) | exact h2 (by omega) (by omega) (by omega) | exact h3 (by omega) (by omega) hok Dr hDr (by omega) | exact h4 (by omega) (by omega) hok Dr hDr (by omega) (by omega) (by omega) | exact h5 (by omega) (by omega) hok Dr hDr (by omega) (by omega)
                · skip
                  refine pw_const r_12_move_94 ?_
                  refine pw_iret r_12_move_96 rfl (Nat.le_refl _) ⟨rfl, ?_⟩
                  first | exact h1 (by omega) | exact h2 (by omega) (by omega) (by omega) | exact h3 (by omega) (by omega) hok Dr hDr (by omega) | exact h4 (by omega) (by omega) hok Dr hDr (by omega) (by omega) (by omega) | exact h5 (by omega) (by omega) hok Dr hDr (by omega) (by omega)
              · skip
                refine pw_const r_12_move_72 ?_
                refine pw_iret r_12_move_74 rfl (Nat.le_refl _) ⟨rfl, ?_⟩
                first | exact h1 (by omega) | exact h2 (by omega) (by omega) (by omega) | exact h3 (by omega) (by omega) hok Dr hDr (by omega) | exact h4 (by omega) (by omega) hok Dr hDr (by omega) (by omega) (by omega) | exact h5 (by omega) (by omega) hok Dr hDr (by omega) (by omega)
    · skip
      refine pw_const r_12_move_16 ?_
      refine pw_iret r_12_move_17 rfl (Nat.le_refl _) ⟨rfl, ?_⟩
      first | exact h1 (by omega) | exact h2 (by omega) (by omega) (by omega) | exact h3 (by omega) (by omega) hok Dr hDr (by omega) | exact h4 (by omega) (by omega) hok Dr hDr (by omega) (by omega) (by omega) | exact h5 (by omega) (by omega) hok Dr hDr (by omega) (by omega)
set_option maxRecDepth 10000 in
theorem sp_X3_isUnder {l : Launch} {w : Wo} {d : Nat} {G : PH} {P : Option PV → PH → Prop} {p k : Int} (hk : 1 ≤ (gF G 3 (p) 1) ∧ (gF G 3 (p) 1) ≤ 7) (hk2 : 0 ≤ k ∧ k ≤ 7) (hP : P (some (vI (b2i (Und (gF G 3 (p) 1) k)))) G) : PW l w M_X3_isUnder (d + 0) 0 [some (vR 3 (p)), some (vI (k)), none, none] [] G P := by
  refine pw_aload r_3_isUnder_0 rfl ?_
  refine pw_getI r_3_isUnder_1 fs_3_1 (by decide) ?_
  refine pw_istore (ls' := [some (vR 3 (p)), some (vI (k)), some (vI (gF G 3 (p) 1)), none]) r_3_isUnder_4 rfl rfl ?_
  refine pw_const r_3_isUnder_5 ?_
  refine pw_istore (ls' := [some (vR 3 (p)), some (vI (k)), some (vI (gF G 3 (p) 1)), some (vI (0))]) r_3_isUnder_6 rfl rfl ?_
  have L7 : ∀ (nF : Nat) (z n : Int), (hn : 0 ≤ n ∧ -1 ≤ z ∧ z ≤ 7 - n) → (hU : Und (gF G 3 (p) 1) k ↔ (0 ≤ z ∧ Und z k)) → (8 - n).toNat < nF → PW l w M_X3_isUnder (d + 0) 7 [some (vR 3 (p)), some (vI (k)), some (vI (z)), some (vI (n))] [] G P := by
    intro nF
    induction nF with
    | zero => intro _ _ _ _ hM; exact absurd hM (Nat.not_lt_zero _)
    | succ nF ih7 =>
      intro z n hn hU hM7
      refine pw_iload r_3_isUnder_7 rfl ?_
      refine pw_const r_3_isUnder_8 ?_
      refine pw_icmp_ge r_3_isUnder_10 (fun h10 => ?_) (fun h10 => ?_)
      · skip
        refine pw_const r_3_isUnder_42 ?_
        refine pw_zret r_3_isUnder_43 rfl (Or.inl rfl) (Nat.le_refl _) ⟨rfl, ?_⟩
        exact pe hP (b2i_f (fun q => by have := (hU.mp q).1; omega)).symm
      · skip
        refine pw_iload r_3_isUnder_13 rfl ?_
        refine pw_if_lt r_3_isUnder_14 (fun h14 => ?_) (fun h14 => ?_)
        · skip
          refine pw_const r_3_isUnder_42 ?_
          refine pw_zret r_3_isUnder_43 rfl (Or.inl rfl) (Nat.le_refl _) ⟨rfl, ?_⟩
          exact pe hP (b2i_f (fun q => by have := (hU.mp q).1; omega)).symm
        · skip
          refine pw_iload r_3_isUnder_17 rfl ?_
          refine pw_const r_3_isUnder_18 ?_
          refine pw_icmp_ge r_3_isUnder_20 (fun h20 => ?_) (fun h20 => ?_)
          · skip
            refine pw_const r_3_isUnder_42 ?_
            refine pw_zret r_3_isUnder_43 rfl (Or.inl rfl) (Nat.le_refl _) ⟨rfl, ?_⟩
            exact pe hP (b2i_f (fun q => by have := (hU.mp q).1; omega)).symm
          · skip
            refine pw_iload r_3_isUnder_23 rfl ?_
            refine pw_iload r_3_isUnder_24 rfl ?_
            refine pw_icmp_ne r_3_isUnder_25 (fun h25 => ?_) (fun h25 => ?_)
            · skip
              have hzz := ab_is (z := z) (by omega) (by omega)
              refine pw_gs190 r_3_isUnder_30 ?_
              refine pw_iload r_3_isUnder_33 rfl ?_
              refine pw_tab190 r_3_isUnder_34 (by omega) (by omega) ?_
              refine pw_istore (ls' := [some (vR 3 (p)), some (vI (k)), some (vI (abF (z))), some (vI (n))]) r_3_isUnder_35 rfl rfl ?_
              refine pw_iinc (b := 0) (ls' := [some (vR 3 (p)), some (vI (k)), some (vI (abF (z))), some (vI ((n + 1)))]) r_3_isUnder_36 rfl rfl (by omega) rfl ?_
              refine pw_goto r_3_isUnder_39 ?_
              exact ih7 (abF (z)) ((n + 1)) (by omega) (hU.trans ((and_iff_right (by omega)).trans (und_step (by omega) (by omega) hk2 (by omega)))) (by omega)
            · skip
              refine pw_const r_3_isUnder_28 ?_
              refine pw_zret r_3_isUnder_29 rfl (Or.inr rfl) (Nat.le_refl _) ⟨rfl, ?_⟩
              exact pe hP (b2i_t (hU.mpr ⟨by omega, Or.inl (by omega)⟩)).symm
  exact L7 _ (gF G 3 (p) 1) (0) (by omega) (⟨fun q => ⟨by omega, q⟩, fun q => q.2⟩) (Nat.lt_succ_self _)
set_option maxRecDepth 10000 in
theorem sp_X1_take {l : Launch} {w : Wo} {d : Nat} {G : PH} {P : Option PV → PH → Prop} {p k : Int} (hp : ∀ i, 0 ≤ i → i < (gF G 1 0 1) → gD G 30 0 i = some (3, i)) (hsz : 0 ≤ (gF G 1 0 1) ∧ (gF G 1 0 1) ≤ 150) (hk : (0 ≤ p ∧ p < (gF G 1 0 1)) → 1 ≤ (gF G 3 (p) 1) ∧ (gF G 3 (p) 1) ≤ 7) (h1 : ¬ ((0 ≤ p ∧ p < (gF G 1 0 1)) ∧ 0 ≤ k ∧ k ≤ 7) → P (some (vI (-1))) G) (h2 : (0 ≤ p ∧ p < (gF G 1 0 1)) → (0 ≤ k ∧ k ≤ 7) → ¬ (Und (gF G 3 (p) 1) k) → P (some (vI (-5))) G) (h3 : (0 ≤ p ∧ p < (gF G 1 0 1)) → (0 ≤ k ∧ k ≤ 7) → (Und (gF G 3 (p) 1) k) → P (some (vI (gF G 3 (p) 1))) G) : PW l w M_X1_take (d + 1) 0 [some (vR 1 (0)), some (vI (p)), some (vI (k)), none] [] G P := by
  refine pw_aload r_1_take_0 rfl ?_
  refine pw_iload r_1_take_1 rfl ?_
  refine pw_callV (av := [vI (p)]) (st := []) (ls0 := [some (vR 1 (0)), some (vI (p))]) r_1_take_2 rfl rfl rfl (Nat.le_refl _) ?_
  refine sp_X1_get (by first | assumption | exact hp | omega) (by first | assumption | exact hsz | omega) ?_ ?_
  · skip
    intros
    refine pw_astore (ls' := [some (vR 1 (0)), some (vI (p)), some (vI (k)), some (vN)]) r_1_take_5 rfl rfl ?_
    refine pw_aload r_1_take_6 rfl ?_
    refine pw_ifnull r_1_take_7 (fun _ => ?_) (fun _ q => by cases q)
    refine pw_const r_1_take_20 ?_
    refine pw_iret r_1_take_21 rfl (Nat.le_refl _) ⟨rfl, ?_⟩
    first | exact h1 (by omega) | exact h2 (by omega) (by omega) h27 | exact h3 (by omega) (by omega) h27
  · skip
    intros
    refine pw_astore (ls' := [some (vR 1 (0)), some (vI (p)), some (vI (k)), some (vR 3 (p))]) r_1_take_5 rfl rfl ?_
    refine pw_aload r_1_take_6 rfl ?_
    refine pw_ifnull r_1_take_7 (fun q => by cases q) (fun _ _ => ?_)
    refine pw_iload r_1_take_10 rfl ?_
    refine pw_const r_1_take_11 ?_
    refine pw_const r_1_take_12 ?_
    refine pw_callS (av := [vI (k), vI (0), vI (7)]) (st := []) (ls0 := [some (vI (k)), some (vI (0)), some (vI (7))]) r_1_take_14 rfl rfl rfl (Nat.le_refl _) ?_
    refine sp_X11_within  ?_
    refine pw_if_neB r_1_take_17 (fun h17 => ?_) (fun h17 => ?_)
    · skip
      refine pw_aload r_1_take_22 rfl ?_
      refine pw_iload r_1_take_23 rfl ?_
      refine pw_callV (av := [vI (k)]) (st := []) (ls0 := [some (vR 3 (p)), some (vI (k)), none, none]) r_1_take_24 rfl rfl rfl (Nat.le_refl _) ?_
      refine sp_X3_isUnder (hk (by omega)) (by omega) ?_
      refine pw_if_eqB r_1_take_27 (fun h27 => ?_) (fun h27 => ?_)
      · skip
        refine pw_const r_1_take_37 ?_
        refine pw_iret r_1_take_39 rfl (Nat.le_refl _) ⟨rfl, ?_⟩
        first | exact h1 (by omega) | exact h2 (by omega) (by omega) h27 | exact h3 (by omega) (by omega) h27
      · skip
        refine pw_aload r_1_take_30 rfl ?_
        refine pw_getI r_1_take_31 fs_3_1 (by decide) ?_
        refine pw_goto r_1_take_34 ?_
        refine pw_iret r_1_take_39 rfl (Nat.le_refl _) ⟨rfl, ?_⟩
        first | exact h1 (by omega) | exact h2 (by omega) (by omega) h27 | exact h3 (by omega) (by omega) h27
    · skip
      refine pw_const r_1_take_20 ?_
      refine pw_iret r_1_take_21 rfl (Nat.le_refl _) ⟨rfl, ?_⟩
      first | exact h1 (by omega) | exact h2 (by omega) (by omega) h27 | exact h3 (by omega) (by omega) h27
set_option maxRecDepth 10000 in
theorem sp_X12_above {l : Launch} {w : Wo} {d : Nat} {G : PH} {P : Option PV → PH → Prop} {k : Int} (hP : P (some (vI (if k = 7 then 4 else if 1 < k then 1 else 0))) G) : PW l w M_X12_above (d + 0) 0 [some (vI (k))] [] G P := by
  refine pw_iload r_12_above_0 rfl ?_
  refine pw_const r_12_above_1 ?_
  refine pw_icmp_ne r_12_above_3 (fun h03 => ?_) (fun h03 => ?_)
  · skip
    refine pw_iload r_12_above_10 rfl ?_
    refine pw_const r_12_above_11 ?_
    refine pw_icmp_le r_12_above_12 (fun h12 => ?_) (fun h12 => ?_)
    · skip
      refine pw_const r_12_above_19 ?_
      refine pw_iret r_12_above_20 rfl (Nat.le_refl _) ⟨rfl, ?_⟩
      exact pe hP (by first | (rw [if_pos (by omega)]) | (rw [if_neg (by omega), if_pos (by omega)]) | (rw [if_neg (by omega), if_neg (by omega)]))
    · skip
      refine pw_const r_12_above_15 ?_
      refine pw_goto r_12_above_16 ?_
      refine pw_iret r_12_above_20 rfl (Nat.le_refl _) ⟨rfl, ?_⟩
      exact pe hP (by first | (rw [if_pos (by omega)]) | (rw [if_neg (by omega), if_pos (by omega)]) | (rw [if_neg (by omega), if_neg (by omega)]))
  · skip
    refine pw_const r_12_above_6 ?_
    refine pw_goto r_12_above_7 ?_
    refine pw_iret r_12_above_20 rfl (Nat.le_refl _) ⟨rfl, ?_⟩
    exact pe hP (by first | (rw [if_pos (by omega)]) | (rw [if_neg (by omega), if_pos (by omega)]) | (rw [if_neg (by omega), if_neg (by omega)]))
set_option maxRecDepth 10000 in
theorem sp_X12_taken {l : Launch} {w : Wo} {d : Nat} {G : PH} {P : Option PV → PH → Prop} {p k : Int} (hsz : 0 ≤ (gF G 12 0 17) ∧ (gF G 12 0 17) ≤ 150) (hk : (0 ≤ p ∧ p < (gF G 12 0 17)) → 1 ≤ (gA G 204 0 (p)) ∧ (gA G 204 0 (p)) ≤ 7) (h1 : ¬ ((0 ≤ p ∧ p < (gF G 12 0 17)) ∧ 0 ≤ k ∧ k ≤ 7) → P (some (vI (-1))) G) (h2 : (0 ≤ p ∧ p < (gF G 12 0 17)) → (0 ≤ k ∧ k ≤ 7) → ¬ (Und (gA G 204 0 (p)) k) → P (some (vI (-5))) G) (h3 : (0 ≤ p ∧ p < (gF G 12 0 17)) → (0 ≤ k ∧ k ≤ 7) → (Und (gA G 204 0 (p)) k) → P (some (vI (gA G 204 0 (p)))) G) : PW l w M_X12_taken (d + 1) 0 [some (vR 12 (0)), some (vI (p)), some (vI (k)), none] [] G P := by
  refine pw_aload r_12_taken_0 rfl ?_
  refine pw_iload r_12_taken_1 rfl ?_
  refine pw_callV (av := [vI (p)]) (st := []) (ls0 := [some (vR 12 (0)), some (vI (p))]) r_12_taken_2 rfl rfl rfl (Nat.le_refl _) ?_
  refine sp_X12_isPerson  ?_
  refine pw_if_eqB r_12_taken_5 (fun h05 => ?_) (fun h05 => ?_)
  · skip
    refine pw_const r_12_taken_18 ?_
    refine pw_iret r_12_taken_19 rfl (Nat.le_refl _) ⟨rfl, ?_⟩
    exact h1 (by omega)
  · skip
    refine pw_iload r_12_taken_8 rfl ?_
    refine pw_const r_12_taken_9 ?_
    refine pw_const r_12_taken_10 ?_
    refine pw_callS (av := [vI (k), vI (0), vI (7)]) (st := []) (ls0 := [some (vI (k)), some (vI (0)), some (vI (7))]) r_12_taken_12 rfl rfl rfl (Nat.le_refl _) ?_
    refine sp_X12_within  ?_
    refine pw_if_neB r_12_taken_15 (fun h15 => ?_) (fun h15 => ?_)
    · skip
      refine pw_aload r_12_taken_20 rfl ?_
      refine pw_getR r_12_taken_21 fs_12_6 (by decide) ?_
      refine pw_iload r_12_taken_24 rfl ?_
      refine pw_iald r_12_taken_25 sh204 (by omega) (by omega) ?_
      have hk2 := hk (by omega)
      refine pw_istore (ls' := [some (vR 12 (0)), some (vI (p)), some (vI (k)), some (vI (gA G 204 (0) (p)))]) r_12_taken_26 rfl rfl ?_
      have L27 : ∀ (nF : Nat) (z : Int), (hn : 0 ≤ z ∧ z ≤ 7) → (hU : Und (gA G 204 0 (p)) k ↔ Und z k) → z.toNat < nF → PW l w M_X12_taken (d + 1) 27 [some (vR 12 (0)), some (vI (p)), some (vI (k)), some (vI (z))] [] G P := by
        intro nF
        induction nF with
        | zero => intro _ _ _ hM; exact absurd hM (Nat.not_lt_zero _)
        | succ nF ih27 =>
          intro z hn hU hM27
          refine pw_iload r_12_taken_27 rfl ?_
          refine pw_iload r_12_taken_28 rfl ?_
          refine pw_icmp_eq r_12_taken_29 (fun h29 => ?_) (fun h29 => ?_)
          · skip
            refine pw_iload r_12_taken_44 rfl ?_
            refine pw_iload r_12_taken_45 rfl ?_
            refine pw_icmp_ne r_12_taken_46 (fun h46 => ?_) (fun h46 => ?_)
            · skip
              refine pw_const r_12_taken_58 ?_
              refine pw_iret r_12_taken_60 rfl (Nat.le_refl _) ⟨rfl, ?_⟩
              first | exact h3 (by omega) (by omega) (hU.mpr (Or.inl (by omega))) | exact h2 (by omega) (by omega) (fun q => by have := hU.mp q; unfold Und at this; omega)
            · skip
              refine pw_aload r_12_taken_49 rfl ?_
              refine pw_getR r_12_taken_50 fs_12_6 (by decide) ?_
              refine pw_iload r_12_taken_53 rfl ?_
              refine pw_iald r_12_taken_54 sh204 (by omega) (by omega) ?_
              refine pw_goto r_12_taken_55 ?_
              refine pw_iret r_12_taken_60 rfl (Nat.le_refl _) ⟨rfl, ?_⟩
              first | exact h3 (by omega) (by omega) (hU.mpr (Or.inl (by omega))) | exact h2 (by omega) (by omega) (fun q => by have := hU.mp q; unfold Und at this; omega)
          · skip
            refine pw_iload r_12_taken_32 rfl ?_
            refine pw_if_le r_12_taken_33 (fun h33 => ?_) (fun h33 => ?_)
            · skip
              refine pw_iload r_12_taken_44 rfl ?_
              refine pw_iload r_12_taken_45 rfl ?_
              refine pw_icmp_ne r_12_taken_46 (fun h46 => ?_) (fun h46 => ?_)
              · skip
                refine pw_const r_12_taken_58 ?_
                refine pw_iret r_12_taken_60 rfl (Nat.le_refl _) ⟨rfl, ?_⟩
                first | exact h3 (by omega) (by omega) (hU.mpr (Or.inl (by omega))) | exact h2 (by omega) (by omega) (fun q => by have := hU.mp q; unfold Und at this; omega)
              · skip
                refine pw_aload r_12_taken_49 rfl ?_
                refine pw_getR r_12_taken_50 fs_12_6 (by decide) ?_
                refine pw_iload r_12_taken_53 rfl ?_
                refine pw_iald r_12_taken_54 sh204 (by omega) (by omega) ?_
                refine pw_goto r_12_taken_55 ?_
                refine pw_iret r_12_taken_60 rfl (Nat.le_refl _) ⟨rfl, ?_⟩
                first | exact h3 (by omega) (by omega) (hU.mpr (Or.inl (by omega))) | exact h2 (by omega) (by omega) (fun q => by have := hU.mp q; unfold Und at this; omega)
            · skip
              refine pw_iload r_12_taken_36 rfl ?_
              refine pw_callS (av := [vI (z)]) (st := []) (ls0 := [some (vI (z))]) r_12_taken_37 rfl rfl rfl (Nat.le_refl _) ?_
              refine sp_X12_above  ?_
              refine pw_istore (ls' := [some (vR 12 (0)), some (vI (p)), some (vI (k)), some (vI (if z = 7 then 4 else if 1 < z then 1 else 0))]) r_12_taken_40 rfl rfl ?_
              refine pw_goto r_12_taken_41 ?_
              exact ih27 (if z = 7 then 4 else if 1 < z then 1 else 0) (by split <;> (try split) <;> omega) (by have hz := abv_is (z := z) (by omega) (by omega); rw [hz]; exact hU.trans ((und_step (by omega) (by omega) (by omega) (by omega)).trans (and_iff_right (by have := ab_is (z := z) (by omega) (by omega); omega)))) (by split <;> (try split) <;> omega)
      exact L27 _ (gA G 204 (0) (p)) (by omega) (Iff.rfl) (Nat.lt_succ_self _)
    · skip
      refine pw_const r_12_taken_18 ?_
      refine pw_iret r_12_taken_19 rfl (Nat.le_refl _) ⟨rfl, ?_⟩
      exact h1 (by omega)
set_option maxRecDepth 10000 in
theorem sp_X11_count {l : Launch} {w : Wo} {d : Nat} {G : PH} {P : Option PV → PH → Prop} {k : Int} (hp : ∀ i, 0 ≤ i → i < (gF G 1 0 1) → gD G 30 0 i = some (3, i)) (hsz : 0 ≤ (gF G 1 0 1) ∧ (gF G 1 0 1) ≤ 150) (hP : ∀ v, ((k = 0 ∧ v = (gF G 2 0 2)) ∨ (k = 1 ∧ v = (gF G 1 0 1)) ∨ (k = 2 ∧ v = (gF G 1 0 2)) ∨ (k = 3 ∧ v = (gF G 9 0 0)) ∨ (k = 4 ∧ v = (gF G 9 0 1)) ∨ (k = 5 ∧ v = (gF G 9 0 2)) ∨ (k = 6 ∧ v = (gF G 8 0 0)) ∨ (k = 7 ∧ v = (gF G 5 0 0)) ∨ (k = 8 ∧ v = (gF G 1 0 3)) ∨ (k = 9 ∧ v = (gF G 8 0 1)) ∨ ((10 ≤ k ∧ k ≤ 18) ∧ v = cnt (fun i => (gF G 3 (i) 8) = k - 10) (gF G 1 0 1)) ∨ (¬ (0 ≤ k ∧ k ≤ 18) ∧ v = -1)) → P (some (vI v)) G) : PW l w M_X11_count (d + 1) 0 [some (vR 11 (0)), some (vI (k))] [] G P := by
  refine pw_iload r_11_count_0 rfl ?_
  refine pw_tswitch r_11_count_1 ?_
  refine pw_swt (fun h01 => ?_) (fun h01_0 => ?_)
  · skip
    refine pw_aload r_11_count_56 rfl ?_
    refine pw_getR r_11_count_57 fs_11_0 (by decide) ?_
    refine pw_getI r_11_count_60 fs_2_2 (by decide) ?_
    refine pw_iret r_11_count_63 rfl (Nat.le_refl _) ⟨rfl, ?_⟩
    exact hP _ (Or.inl ⟨by omega, rfl⟩)
  refine pw_swt (fun h01 => ?_) (fun h01_1 => ?_)
  · skip
    refine pw_aload r_11_count_64 rfl ?_
    refine pw_getR r_11_count_65 fs_11_1 (by decide) ?_
    refine pw_getI r_11_count_68 fs_1_1 (by decide) ?_
    refine pw_iret r_11_count_71 rfl (Nat.le_refl _) ⟨rfl, ?_⟩
    exact hP _ (Or.inr (Or.inl ⟨by omega, rfl⟩))
  refine pw_swt (fun h01 => ?_) (fun h01_2 => ?_)
  · skip
    refine pw_aload r_11_count_72 rfl ?_
    refine pw_getR r_11_count_73 fs_11_1 (by decide) ?_
    refine pw_getI r_11_count_76 fs_1_2 (by decide) ?_
    refine pw_iret r_11_count_79 rfl (Nat.le_refl _) ⟨rfl, ?_⟩
    exact hP _ (Or.inr (Or.inr (Or.inl ⟨by omega, rfl⟩)))
  refine pw_swt (fun h01 => ?_) (fun h01_3 => ?_)
  · skip
    refine pw_aload r_11_count_80 rfl ?_
    refine pw_getR r_11_count_81 fs_11_2 (by decide) ?_
    refine pw_getI r_11_count_84 fs_9_0 (by decide) ?_
    refine pw_iret r_11_count_87 rfl (Nat.le_refl _) ⟨rfl, ?_⟩
    exact hP _ (Or.inr (Or.inr (Or.inr (Or.inl ⟨by omega, rfl⟩))))
  refine pw_swt (fun h01 => ?_) (fun h01_4 => ?_)
  · skip
    refine pw_aload r_11_count_88 rfl ?_
    refine pw_getR r_11_count_89 fs_11_2 (by decide) ?_
    refine pw_getI r_11_count_92 fs_9_1 (by decide) ?_
    refine pw_iret r_11_count_95 rfl (Nat.le_refl _) ⟨rfl, ?_⟩
    exact hP _ (Or.inr (Or.inr (Or.inr (Or.inr (Or.inl ⟨by omega, rfl⟩)))))
  refine pw_swt (fun h01 => ?_) (fun h01_5 => ?_)
  · skip
    refine pw_aload r_11_count_96 rfl ?_
    refine pw_getR r_11_count_97 fs_11_2 (by decide) ?_
    refine pw_getI r_11_count_100 fs_9_2 (by decide) ?_
    refine pw_iret r_11_count_103 rfl (Nat.le_refl _) ⟨rfl, ?_⟩
    exact hP _ (Or.inr (Or.inr (Or.inr (Or.inr (Or.inr (Or.inl ⟨by omega, rfl⟩))))))
  refine pw_swt (fun h01 => ?_) (fun h01_6 => ?_)
  · skip
    refine pw_aload r_11_count_104 rfl ?_
    refine pw_getR r_11_count_105 fs_11_3 (by decide) ?_
    refine pw_getI r_11_count_108 fs_8_0 (by decide) ?_
    refine pw_iret r_11_count_111 rfl (Nat.le_refl _) ⟨rfl, ?_⟩
    exact hP _ (Or.inr (Or.inr (Or.inr (Or.inr (Or.inr (Or.inr (Or.inl ⟨by omega, rfl⟩)))))))
  refine pw_swt (fun h01 => ?_) (fun h01_7 => ?_)
  · skip
    refine pw_aload r_11_count_112 rfl ?_
    refine pw_getR r_11_count_113 fs_11_4 (by decide) ?_
    refine pw_getI r_11_count_116 fs_5_0 (by decide) ?_
    refine pw_iret r_11_count_119 rfl (Nat.le_refl _) ⟨rfl, ?_⟩
    exact hP _ (Or.inr (Or.inr (Or.inr (Or.inr (Or.inr (Or.inr (Or.inr (Or.inl ⟨by omega, rfl⟩))))))))
  refine pw_swt (fun h01 => ?_) (fun h01_8 => ?_)
  · skip
    refine pw_aload r_11_count_120 rfl ?_
    refine pw_getR r_11_count_121 fs_11_1 (by decide) ?_
    refine pw_getI r_11_count_124 fs_1_3 (by decide) ?_
    refine pw_iret r_11_count_127 rfl (Nat.le_refl _) ⟨rfl, ?_⟩
    exact hP _ (Or.inr (Or.inr (Or.inr (Or.inr (Or.inr (Or.inr (Or.inr (Or.inr (Or.inl ⟨by omega, rfl⟩)))))))))
  refine pw_swt (fun h01 => ?_) (fun h01_9 => ?_)
  · skip
    refine pw_aload r_11_count_128 rfl ?_
    refine pw_getR r_11_count_129 fs_11_3 (by decide) ?_
    refine pw_getI r_11_count_132 fs_8_1 (by decide) ?_
    refine pw_iret r_11_count_135 rfl (Nat.le_refl _) ⟨rfl, ?_⟩
    exact hP _ (Or.inr (Or.inr (Or.inr (Or.inr (Or.inr (Or.inr (Or.inr (Or.inr (Or.inr (Or.inl ⟨by omega, rfl⟩))))))))))
  refine pw_swd ?_
  refine pw_iload r_11_count_136 rfl ?_
  refine pw_const r_11_count_137 ?_
  refine pw_const r_11_count_139 ?_
  refine pw_callS (av := [vI (k), vI (10), vI (18)]) (st := []) (ls0 := [some (vI (k)), some (vI (10)), some (vI (18))]) r_11_count_141 rfl rfl rfl (Nat.le_refl _) ?_
  refine sp_X11_within  ?_
  refine pw_if_eqB r_11_count_144 (fun h144 => ?_) (fun h144 => ?_)
  · skip
    refine pw_const r_11_count_161 ?_
    refine pw_iret r_11_count_162 rfl (Nat.le_refl _) ⟨rfl, ?_⟩
    exact hP _ (Or.inr (Or.inr (Or.inr (Or.inr (Or.inr (Or.inr (Or.inr (Or.inr (Or.inr (Or.inr (Or.inr (⟨by omega, rfl⟩))))))))))))
  · skip
    refine pw_aload r_11_count_147 rfl ?_
    refine pw_getR r_11_count_148 fs_11_1 (by decide) ?_
    refine pw_iload r_11_count_151 rfl ?_
    refine pw_const r_11_count_152 ?_
    refine pw_isub r_11_count_154 (by omega) ?_
    refine pw_callV (av := [vI ((k - 10))]) (st := []) (ls0 := [some (vR 1 (0)), some (vI ((k - 10))), none, none, none]) r_11_count_155 rfl rfl rfl (Nat.le_refl _) ?_
    refine sp_X1_countState (by first | assumption | exact hp | omega) (by first | assumption | exact hsz | omega) ?_
    refine pw_goto r_11_count_158 ?_
    refine pw_iret r_11_count_162 rfl (Nat.le_refl _) ⟨rfl, ?_⟩
    exact hP _ (Or.inr (Or.inr (Or.inr (Or.inr (Or.inr (Or.inr (Or.inr (Or.inr (Or.inr (Or.inr (Or.inl ⟨by omega, rfl⟩)))))))))))
set_option maxRecDepth 10000 in
theorem sp_X12_count {l : Launch} {w : Wo} {d : Nat} {G : PH} {P : Option PV → PH → Prop} {k : Int} (hsz : 0 ≤ (gF G 12 0 17) ∧ (gF G 12 0 17) ≤ 150) (hP : ∀ v, ((k = 0 ∧ v = (gF G 12 0 3)) ∨ (k = 1 ∧ v = (gF G 12 0 17)) ∨ (k = 2 ∧ v = (gF G 12 0 0)) ∨ (k = 3 ∧ v = (gF G 12 0 27)) ∨ (k = 4 ∧ v = (gF G 12 0 29)) ∨ (k = 5 ∧ v = (gF G 12 0 34)) ∨ (k = 6 ∧ v = (gF G 12 0 42)) ∨ (k = 7 ∧ v = (gF G 12 0 55)) ∨ (k = 8 ∧ v = (gF G 12 0 22)) ∨ (k = 9 ∧ v = (gF G 12 0 36)) ∨ ((10 ≤ k ∧ k ≤ 18) ∧ v = cnt (fun i => (gA G 206 0 (i)) = k - 10) (gF G 12 0 17)) ∨ (¬ (0 ≤ k ∧ k ≤ 18) ∧ v = -1)) → P (some (vI v)) G) : PW l w M_X12_count (d + 1) 0 [some (vR 12 (0)), some (vI (k)), none, none] [] G P := by
  refine pw_iload r_12_count_0 rfl ?_
  refine pw_const r_12_count_1 ?_
  refine pw_const r_12_count_3 ?_
  refine pw_callS (av := [vI (k), vI (10), vI (18)]) (st := []) (ls0 := [some (vI (k)), some (vI (10)), some (vI (18))]) r_12_count_5 rfl rfl rfl (Nat.le_refl _) ?_
  refine sp_X12_within  ?_
  refine pw_if_eqB r_12_count_8 (fun h08 => ?_) (fun h08 => ?_)
  · skip
    refine pw_iload r_12_count_52 rfl ?_
    refine pw_tswitch r_12_count_53 ?_
    refine pw_swt (fun h53 => ?_) (fun h53_0 => ?_)
    · skip
      refine pw_aload r_12_count_108 rfl ?_
      refine pw_getI r_12_count_109 fs_12_3 (by decide) ?_
      refine pw_iret r_12_count_112 rfl (Nat.le_refl _) ⟨rfl, ?_⟩
      exact hP _ (Or.inl ⟨by omega, rfl⟩)
    refine pw_swt (fun h53 => ?_) (fun h53_1 => ?_)
    · skip
      refine pw_aload r_12_count_113 rfl ?_
      refine pw_getI r_12_count_114 fs_12_17 (by decide) ?_
      refine pw_iret r_12_count_117 rfl (Nat.le_refl _) ⟨rfl, ?_⟩
      exact hP _ (Or.inr (Or.inl ⟨by omega, rfl⟩))
    refine pw_swt (fun h53 => ?_) (fun h53_2 => ?_)
    · skip
      refine pw_aload r_12_count_118 rfl ?_
      refine pw_getI r_12_count_119 fs_12_0 (by decide) ?_
      refine pw_iret r_12_count_122 rfl (Nat.le_refl _) ⟨rfl, ?_⟩
      exact hP _ (Or.inr (Or.inr (Or.inl ⟨by omega, rfl⟩)))
    refine pw_swt (fun h53 => ?_) (fun h53_3 => ?_)
    · skip
      refine pw_aload r_12_count_123 rfl ?_
      refine pw_getI r_12_count_124 fs_12_27 (by decide) ?_
      refine pw_iret r_12_count_127 rfl (Nat.le_refl _) ⟨rfl, ?_⟩
      exact hP _ (Or.inr (Or.inr (Or.inr (Or.inl ⟨by omega, rfl⟩))))
    refine pw_swt (fun h53 => ?_) (fun h53_4 => ?_)
    · skip
      refine pw_aload r_12_count_128 rfl ?_
      refine pw_getI r_12_count_129 fs_12_29 (by decide) ?_
      refine pw_iret r_12_count_132 rfl (Nat.le_refl _) ⟨rfl, ?_⟩
      exact hP _ (Or.inr (Or.inr (Or.inr (Or.inr (Or.inl ⟨by omega, rfl⟩)))))
    refine pw_swt (fun h53 => ?_) (fun h53_5 => ?_)
    · skip
      refine pw_aload r_12_count_133 rfl ?_
      refine pw_getI r_12_count_134 fs_12_34 (by decide) ?_
      refine pw_iret r_12_count_137 rfl (Nat.le_refl _) ⟨rfl, ?_⟩
      exact hP _ (Or.inr (Or.inr (Or.inr (Or.inr (Or.inr (Or.inl ⟨by omega, rfl⟩))))))
    refine pw_swt (fun h53 => ?_) (fun h53_6 => ?_)
    · skip
      refine pw_aload r_12_count_138 rfl ?_
      refine pw_getI r_12_count_139 fs_12_42 (by decide) ?_
      refine pw_iret r_12_count_142 rfl (Nat.le_refl _) ⟨rfl, ?_⟩
      exact hP _ (Or.inr (Or.inr (Or.inr (Or.inr (Or.inr (Or.inr (Or.inl ⟨by omega, rfl⟩)))))))
    refine pw_swt (fun h53 => ?_) (fun h53_7 => ?_)
    · skip
      refine pw_aload r_12_count_143 rfl ?_
      refine pw_getI r_12_count_144 fs_12_55 (by decide) ?_
      refine pw_iret r_12_count_147 rfl (Nat.le_refl _) ⟨rfl, ?_⟩
      exact hP _ (Or.inr (Or.inr (Or.inr (Or.inr (Or.inr (Or.inr (Or.inr (Or.inl ⟨by omega, rfl⟩))))))))
    refine pw_swt (fun h53 => ?_) (fun h53_8 => ?_)
    · skip
      refine pw_aload r_12_count_148 rfl ?_
      refine pw_getI r_12_count_149 fs_12_22 (by decide) ?_
      refine pw_iret r_12_count_152 rfl (Nat.le_refl _) ⟨rfl, ?_⟩
      exact hP _ (Or.inr (Or.inr (Or.inr (Or.inr (Or.inr (Or.inr (Or.inr (Or.inr (Or.inl ⟨by omega, rfl⟩)))))))))
    refine pw_swt (fun h53 => ?_) (fun h53_9 => ?_)
    · skip
      refine pw_aload r_12_count_153 rfl ?_
      refine pw_getI r_12_count_154 fs_12_36 (by decide) ?_
      refine pw_iret r_12_count_157 rfl (Nat.le_refl _) ⟨rfl, ?_⟩
      exact hP _ (Or.inr (Or.inr (Or.inr (Or.inr (Or.inr (Or.inr (Or.inr (Or.inr (Or.inr (Or.inl ⟨by omega, rfl⟩))))))))))
    refine pw_swd ?_
    refine pw_const r_12_count_158 ?_
    refine pw_iret r_12_count_159 rfl (Nat.le_refl _) ⟨rfl, ?_⟩
    exact hP _ (Or.inr (Or.inr (Or.inr (Or.inr (Or.inr (Or.inr (Or.inr (Or.inr (Or.inr (Or.inr (Or.inr (⟨by omega, rfl⟩))))))))))))
  · skip
    refine pw_const r_12_count_11 ?_
    refine pw_istore (ls' := [some (vR 12 (0)), some (vI (k)), some (vI (0)), none]) r_12_count_12 rfl rfl ?_
    refine pw_const r_12_count_13 ?_
    refine pw_istore (ls' := [some (vR 12 (0)), some (vI (k)), some (vI (0)), some (vI (0))]) r_12_count_14 rfl rfl ?_
    have L15 : ∀ (nF : Nat) (i n : Int), (hi : 0 ≤ i ∧ i ≤ (gF G 12 0 17)) → (hn : n = cnt (fun i => (gA G 206 0 (i)) = k - 10) i) → ((gF G 12 0 17) - i).toNat < nF → PW l w M_X12_count (d + 1) 15 [some (vR 12 (0)), some (vI (k)), some (vI (n)), some (vI (i))] [] G P := by
      intro nF
      induction nF with
      | zero => intro _ _ _ _ hM; exact absurd hM (Nat.not_lt_zero _)
      | succ nF ih15 =>
        intro i n hi hn hM15
        have hcl := cnt_le (fun i => (gA G 206 0 (i)) = k - 10) hi.1
        refine pw_iload r_12_count_15 rfl ?_
        refine pw_aload r_12_count_16 rfl ?_
        refine pw_getI r_12_count_17 fs_12_17 (by decide) ?_
        refine pw_icmp_ge r_12_count_20 (fun h20 => ?_) (fun h20 => ?_)
        · skip
          refine pw_iload r_12_count_50 rfl ?_
          refine pw_iret r_12_count_51 rfl (Nat.le_refl _) ⟨rfl, ?_⟩
          have ei : (gF G 12 0 17) = i := by omega
          refine hP _ (Or.inr (Or.inr (Or.inr (Or.inr (Or.inr (Or.inr (Or.inr (Or.inr (Or.inr (Or.inr (Or.inl ⟨by omega, ?_⟩)))))))))))
          rw [ei]
          exact hn
        · skip
          refine pw_iload r_12_count_23 rfl ?_
          refine pw_aload r_12_count_24 rfl ?_
          refine pw_getR r_12_count_25 fs_12_8 (by decide) ?_
          refine pw_iload r_12_count_28 rfl ?_
          refine pw_iald r_12_count_29 sh206 (by omega) (by omega) ?_
          refine pw_iload r_12_count_30 rfl ?_
          refine pw_const r_12_count_31 ?_
          refine pw_isub r_12_count_33 (by omega) ?_
          refine pw_icmp_ne r_12_count_34 (fun h34 => ?_) (fun h34 => ?_)
          · skip
            refine pw_const r_12_count_41 ?_
            refine pw_iadd r_12_count_42 (by omega) ?_
            refine pw_istore (ls' := [some (vR 12 (0)), some (vI (k)), some (vI ((n + 0))), some (vI (i))]) r_12_count_43 rfl rfl ?_
            refine pw_iinc (b := 0) (ls' := [some (vR 12 (0)), some (vI (k)), some (vI ((n + 0))), some (vI ((i + 1)))]) r_12_count_44 rfl rfl (by omega) rfl ?_
            refine pw_goto r_12_count_47 ?_
            exact ih15 ((i + 1)) ((n + 0)) (by omega) (by first | (rw [cnt_t hi.1 (show (gA G 206 0 (i)) = k - 10 by omega)]; omega) | (rw [cnt_f hi.1 (show ¬ ((gA G 206 0 (i)) = k - 10) by omega)]; omega)) (by omega)
          · skip
            refine pw_const r_12_count_37 ?_
            refine pw_goto r_12_count_38 ?_
            refine pw_iadd r_12_count_42 (by omega) ?_
            refine pw_istore (ls' := [some (vR 12 (0)), some (vI (k)), some (vI ((n + 1))), some (vI (i))]) r_12_count_43 rfl rfl ?_
            refine pw_iinc (b := 0) (ls' := [some (vR 12 (0)), some (vI (k)), some (vI ((n + 1))), some (vI ((i + 1)))]) r_12_count_44 rfl rfl (by omega) rfl ?_
            refine pw_goto r_12_count_47 ?_
            exact ih15 ((i + 1)) ((n + 1)) (by omega) (by first | (rw [cnt_t hi.1 (show (gA G 206 0 (i)) = k - 10 by omega)]; omega) | (rw [cnt_f hi.1 (show ¬ ((gA G 206 0 (i)) = k - 10) by omega)]; omega)) (by omega)
    exact L15 _ (0) (0) (by omega) (rfl) (Nat.lt_succ_self _)
