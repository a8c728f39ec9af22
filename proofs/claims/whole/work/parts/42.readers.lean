theorem sF_idv {G : PH} {c k : Nat} {r v : Int} (h : gF G c r k = v) : sF G c r k v = G := by
  subst h
  refine Prod.ext (funext fun c' => funext fun r' => funext fun k' => ?_) rfl
  show (if c' = c ∧ k' = k ∧ r' = r then gF G c r k else G.1 c' r' k') = G.1 c' r' k'
  by_cases z : c' = c ∧ k' = k ∧ r' = r
  · rw [if_pos z, z.1, z.2.1, z.2.2]; rfl
  · rw [if_neg z]
theorem sgn_in {b f : Int → Int} {n a : Int} (hb : ∀ j, 0 ≤ j → j < n → b j = pAnd (f j) 255) (h0 : 0 ≤ a) : -1 ≤ sgn b n a ∧ sgn b n a ≤ 255 := by
  unfold sgn
  by_cases h : a < n
  · rw [if_pos h, hb a h0 h]; have := pAnd_255_in (f a); omega
  · rw [if_neg h]; omega
theorem sgn_out {b : Int → Int} {n a : Int} (h : n ≤ a) : sgn b n a = -1 := if_neg (by omega)
theorem sgn_lt {b : Int → Int} {n a : Int} (h : sgn b n a ≠ -1) : a < n := by
  rcases Int.lt_or_le a n with q | q
  · exact q
  · exact absurd (sgn_out q) h
theorem nmIx_lt (c : Int) : nmIx c < 9 := by
  unfold nmIx
  repeat' split
  all_goals omega
theorem rk_neg : rkOf (-1) = -1 := by decide
theorem EvX_cmp2 {b : Int → Int} {n r o a a1 : Int} {s s1 : Sem} (hr : r = 2) (h : rkOf (sgn b n a) = r) (h1 : EvX b n (r + 1) o (a + 1) none (.inr (a1, s1))) : EvX b n r o a (some s) (.inr (a1, fun e => wk (sgn b n a) (s e) (s1 e))) := by
  subst hr
  exact EvX_cmp h h1

theorem wd_m4_48 : Cond.methodLink "NameRolls$Reader" 48 M_X4_readPart.1 ∈ UW := UW4_at 124 (by decide +kernel) rfl
theorem wd_s4_readPart : Cond.selects M_X4_readPart.1.cls M_X4_readPart.1 M_X4_readPart.1 ∈ UW := UWp_at 14 (by decide +kernel) rfl
theorem wd_m4_41 : Cond.methodLink "NameRolls$Reader" 41 M_X4_sign.1 ∈ UW := UW4_at 132 (by decide +kernel) rfl
theorem wd_s4_sign : Cond.selects M_X4_sign.1.cls M_X4_sign.1 M_X4_sign.1 ∈ UW := UWp_at 16 (by decide +kernel) rfl
theorem wd_m4_51 : Cond.methodLink "NameRolls$Reader" 51 M_X4_rankOf.1 ∈ UW := UW4_at 229 (by decide +kernel) rfl
theorem wd_m4_55 : Cond.methodLink "NameRolls$Reader" 55 M_X4_work.1 ∈ UW := UW4_at 232 (by decide +kernel) rfl
theorem wd_m4_38 : Cond.methodLink "NameRolls$Reader" 38 M_X4_readRank.1 ∈ UW := UW4_at 120 (by decide +kernel) rfl
theorem wd_s4_readRank : Cond.selects M_X4_readRank.1.cls M_X4_readRank.1 M_X4_readRank.1 ∈ UW := UWp_at 13 (by decide +kernel) rfl
theorem wd_m4_59 : Cond.methodLink "NameRolls$Reader" 59 M_X4_readOperand.1 ∈ UW := UW4_at 128 (by decide +kernel) rfl
theorem wd_s4_readOperand : Cond.selects M_X4_readOperand.1.cls M_X4_readOperand.1 M_X4_readOperand.1 ∈ UW := UWp_at 15 (by decide +kernel) rfl
theorem wd_m4_62 : Cond.methodLink "NameRolls$Reader" 62 M_X4_readOpen.1 ∈ UW := UW4_at 136 (by decide +kernel) rfl
theorem wd_s4_readOpen : Cond.selects M_X4_readOpen.1.cls M_X4_readOpen.1 M_X4_readOpen.1 ∈ UW := UWp_at 17 (by decide +kernel) rfl
theorem wd_m4_67 : Cond.methodLink "NameRolls$Reader" 67 M_J_String_indexOf1.1 ∈ UW := UW4_at 145 (by decide +kernel) rfl
theorem wd_sJ_String_indexOf1 : Cond.selects M_J_String_indexOf1.1.cls M_J_String_indexOf1.1 M_J_String_indexOf1.1 ∈ UW := UW4_at 147 (by decide +kernel) rfl
theorem wd_m4_45 : Cond.methodLink "NameRolls$Reader" 45 M_X4_fail.1 ∈ UW := UW4_at 140 (by decide +kernel) rfl
theorem wd_s4_fail : Cond.selects M_X4_fail.1.cls M_X4_fail.1 M_X4_fail.1 ∈ UW := UWp_at 18 (by decide +kernel) rfl
theorem wd_f4_9 : Cond.fieldLink "NameRolls$Reader" 9 "NameRolls$Reader" "values" "[I" ∈ UW := UW1_at 194 (by decide +kernel) rfl
theorem r_4_readRank_0 : RA M_X4_readRank 0 0 1 := Or.inl ⟨0, by decide +kernel, rfl, rfl⟩
theorem r_4_readRank_1 : RL M_X4_readRank 1 1 2 := Or.inl ⟨1, by decide +kernel, rfl, rfl⟩
theorem r_4_readRank_2 : RC M_X4_readRank 2 1 3 := ⟨⟨by decide, by decide⟩, Or.inl ⟨by decide +kernel, rfl⟩⟩
theorem r_4_readRank_3 : RW M_X4_readRank 3 .iadd 4 1 := ⟨by decide +kernel, rfl⟩
theorem r_4_readRank_4 : RL M_X4_readRank 4 2 5 := Or.inl ⟨2, by decide +kernel, rfl, rfl⟩
theorem r_4_readRank_5 : RKv M_X4_readRank M_X4_readPart 5 2 4 8 := ⟨48, by decide +kernel, wd_m4_48, ok_M_X4_readPart, wd_s4_readPart, rfl⟩
theorem r_4_readRank_8 : RS M_X4_readRank 8 3 9 := ⟨by decide, Or.inl ⟨3, by decide +kernel, rfl, rfl⟩⟩
theorem r_4_readRank_9 : RL M_X4_readRank 9 1 10 := Or.inl ⟨1, by decide +kernel, rfl, rfl⟩
theorem r_4_readRank_10 : RC M_X4_readRank 10 2 11 := ⟨⟨by decide, by decide⟩, Or.inl ⟨by decide +kernel, rfl⟩⟩
theorem r_4_readRank_11 : RB M_X4_readRank 11 (.if_icmp .ne) 18 14 := ⟨7, by decide +kernel, rfl, rfl⟩
theorem r_4_readRank_18 : RA M_X4_readRank 18 0 19 := Or.inl ⟨0, by decide +kernel, rfl, rfl⟩
theorem r_4_readRank_19 : RG M_X4_readRank 19 4 4 22 := ⟨25, _, by decide +kernel, rfl, by decide, wd_f4_25, rfl, rfl⟩
theorem r_4_readRank_22 : RS M_X4_readRank 22 4 24 := ⟨by decide, Or.inr ⟨by decide +kernel, rfl⟩⟩
theorem r_4_readRank_24 : RC M_X4_readRank 24 0 25 := ⟨⟨by decide, by decide⟩, Or.inl ⟨by decide +kernel, rfl⟩⟩
theorem r_4_readRank_25 : RS M_X4_readRank 25 5 27 := ⟨by decide, Or.inr ⟨by decide +kernel, rfl⟩⟩
theorem r_4_readRank_27 : RL M_X4_readRank 27 5 29 := Or.inr ⟨by decide +kernel, rfl⟩
theorem r_4_readRank_29 : RL M_X4_readRank 29 4 31 := Or.inr ⟨by decide +kernel, rfl⟩
theorem r_4_readRank_31 : RB M_X4_readRank 31 (.if_icmp .ge) 82 34 := ⟨51, by decide +kernel, rfl, rfl⟩
theorem r_4_readRank_82 : RL M_X4_readRank 82 3 83 := Or.inl ⟨3, by decide +kernel, rfl, rfl⟩
theorem r_4_readRank_83 : RW M_X4_readRank 83 .ireturn 84 1 := ⟨by decide +kernel, rfl⟩
theorem r_4_readRank_34 : RA M_X4_readRank 34 0 35 := Or.inl ⟨0, by decide +kernel, rfl, rfl⟩
theorem r_4_readRank_35 : RKv M_X4_readRank M_X4_sign 35 0 4 38 := ⟨41, by decide +kernel, wd_m4_41, ok_M_X4_sign, wd_s4_sign, rfl⟩
theorem r_4_readRank_38 : RKs M_X4_readRank M_X4_rankOf 38 1 41 := ⟨51, by decide +kernel, Or.inl wd_m4_51, ok_M_X4_rankOf, rfl⟩
theorem r_4_readRank_41 : RL M_X4_readRank 41 1 42 := Or.inl ⟨1, by decide +kernel, rfl, rfl⟩
theorem r_4_readRank_42 : RB M_X4_readRank 42 (.if_icmp .ne) 82 45 := ⟨40, by decide +kernel, rfl, rfl⟩
theorem r_4_readRank_14 : RC M_X4_readRank 14 1 15 := ⟨⟨by decide, by decide⟩, Or.inl ⟨by decide +kernel, rfl⟩⟩
theorem r_4_readRank_15 : RB M_X4_readRank 15 .goto 22 18 := ⟨7, by decide +kernel, rfl, rfl⟩
theorem r_4_readRank_45 : RA M_X4_readRank 45 0 46 := Or.inl ⟨0, by decide +kernel, rfl, rfl⟩
theorem r_4_readRank_46 : RKv M_X4_readRank M_X4_sign 46 0 4 49 := ⟨41, by decide +kernel, wd_m4_41, ok_M_X4_sign, wd_s4_sign, rfl⟩
theorem r_4_readRank_49 : RS M_X4_readRank 49 6 51 := ⟨by decide, Or.inr ⟨by decide +kernel, rfl⟩⟩
theorem r_4_readRank_51 : RA M_X4_readRank 51 0 52 := Or.inl ⟨0, by decide +kernel, rfl, rfl⟩
theorem r_4_readRank_52 : RW M_X4_readRank 52 .dup 53 1 := ⟨by decide +kernel, rfl⟩
theorem r_4_readRank_53 : RG M_X4_readRank 53 4 5 56 := ⟨29, _, by decide +kernel, rfl, by decide, wd_f4_29, rfl, rfl⟩
theorem r_4_readRank_56 : RC M_X4_readRank 56 1 57 := ⟨⟨by decide, by decide⟩, Or.inl ⟨by decide +kernel, rfl⟩⟩
theorem r_4_readRank_57 : RW M_X4_readRank 57 .iadd 58 1 := ⟨by decide +kernel, rfl⟩
theorem r_4_readRank_58 : RP M_X4_readRank 58 4 5 61 := ⟨29, _, by decide +kernel, rfl, by decide, wd_f4_29, rfl, Or.inl rfl, rfl⟩
theorem r_4_readRank_61 : RL M_X4_readRank 61 6 63 := Or.inr ⟨by decide +kernel, rfl⟩
theorem r_4_readRank_63 : RL M_X4_readRank 63 3 64 := Or.inl ⟨3, by decide +kernel, rfl, rfl⟩
theorem r_4_readRank_64 : RA M_X4_readRank 64 0 65 := Or.inl ⟨0, by decide +kernel, rfl, rfl⟩
theorem r_4_readRank_65 : RL M_X4_readRank 65 1 66 := Or.inl ⟨1, by decide +kernel, rfl, rfl⟩
theorem r_4_readRank_66 : RC M_X4_readRank 66 1 67 := ⟨⟨by decide, by decide⟩, Or.inl ⟨by decide +kernel, rfl⟩⟩
theorem r_4_readRank_67 : RW M_X4_readRank 67 .iadd 68 1 := ⟨by decide +kernel, rfl⟩
theorem r_4_readRank_68 : RL M_X4_readRank 68 2 69 := Or.inl ⟨2, by decide +kernel, rfl, rfl⟩
theorem r_4_readRank_69 : RKv M_X4_readRank M_X4_readPart 69 2 4 72 := ⟨48, by decide +kernel, wd_m4_48, ok_M_X4_readPart, wd_s4_readPart, rfl⟩
theorem r_4_readRank_72 : RKs M_X4_readRank M_X4_work 72 3 75 := ⟨55, by decide +kernel, Or.inl wd_m4_55, ok_M_X4_work, rfl⟩
theorem r_4_readRank_75 : RS M_X4_readRank 75 3 76 := ⟨by decide, Or.inl ⟨3, by decide +kernel, rfl, rfl⟩⟩
theorem r_4_readRank_76 : RI M_X4_readRank 76 5 1 79 := ⟨by decide, by decide +kernel, rfl⟩
theorem r_4_readRank_79 : RB M_X4_readRank 79 .goto 27 82 := ⟨(-52), by decide +kernel, rfl, rfl⟩
theorem r_4_readPart_0 : RL M_X4_readPart 0 1 1 := Or.inl ⟨1, by decide +kernel, rfl, rfl⟩
theorem r_4_readPart_1 : RC M_X4_readPart 1 4 2 := ⟨⟨by decide, by decide⟩, Or.inl ⟨by decide +kernel, rfl⟩⟩
theorem r_4_readPart_2 : RB M_X4_readPart 2 (.if_icmp .le) 13 5 := ⟨11, by decide +kernel, rfl, rfl⟩
theorem r_4_readPart_13 : RA M_X4_readPart 13 0 14 := Or.inl ⟨0, by decide +kernel, rfl, rfl⟩
theorem r_4_readPart_14 : RL M_X4_readPart 14 1 15 := Or.inl ⟨1, by decide +kernel, rfl, rfl⟩
theorem r_4_readPart_15 : RL M_X4_readPart 15 2 16 := Or.inl ⟨2, by decide +kernel, rfl, rfl⟩
theorem r_4_readPart_16 : RKv M_X4_readPart M_X4_readRank 16 2 4 19 := ⟨38, by decide +kernel, wd_m4_38, ok_M_X4_readRank, wd_s4_readRank, rfl⟩
theorem r_4_readPart_19 : RW M_X4_readPart 19 .ireturn 20 1 := ⟨by decide +kernel, rfl⟩
theorem r_4_readPart_5 : RA M_X4_readPart 5 0 6 := Or.inl ⟨0, by decide +kernel, rfl, rfl⟩
theorem r_4_readPart_6 : RL M_X4_readPart 6 2 7 := Or.inl ⟨2, by decide +kernel, rfl, rfl⟩
theorem r_4_readPart_7 : RKv M_X4_readPart M_X4_readOperand 7 1 4 10 := ⟨59, by decide +kernel, wd_m4_59, ok_M_X4_readOperand, wd_s4_readOperand, rfl⟩
theorem r_4_readPart_10 : RB M_X4_readPart 10 .goto 19 13 := ⟨9, by decide +kernel, rfl, rfl⟩
theorem r_4_readOperand_0 : RA M_X4_readOperand 0 0 1 := Or.inl ⟨0, by decide +kernel, rfl, rfl⟩
theorem r_4_readOperand_1 : RKv M_X4_readOperand M_X4_sign 1 0 4 4 := ⟨41, by decide +kernel, wd_m4_41, ok_M_X4_sign, wd_s4_sign, rfl⟩
theorem r_4_readOperand_4 : RS M_X4_readOperand 4 2 5 := ⟨by decide, Or.inl ⟨2, by decide +kernel, rfl, rfl⟩⟩
theorem r_4_readOperand_5 : RC M_X4_readOperand 5 0 6 := ⟨⟨by decide, by decide⟩, Or.inl ⟨by decide +kernel, rfl⟩⟩
theorem r_4_readOperand_6 : RS M_X4_readOperand 6 3 7 := ⟨by decide, Or.inl ⟨3, by decide +kernel, rfl, rfl⟩⟩
theorem r_4_readOperand_7 : RC M_X4_readOperand 7 0 8 := ⟨⟨by decide, by decide⟩, Or.inl ⟨by decide +kernel, rfl⟩⟩
theorem r_4_readOperand_8 : RS M_X4_readOperand 8 4 10 := ⟨by decide, Or.inr ⟨by decide +kernel, rfl⟩⟩
theorem r_4_readOperand_63 : RL M_X4_readOperand 63 2 64 := Or.inl ⟨2, by decide +kernel, rfl, rfl⟩
theorem r_4_readOperand_64 : RC M_X4_readOperand 64 48 66 := ⟨⟨by decide, by decide⟩, Or.inr (Or.inl ⟨by decide +kernel, by decide, rfl⟩)⟩
theorem r_4_readOperand_66 : RB M_X4_readOperand 66 (.if_icmp .lt) 77 69 := ⟨11, by decide +kernel, rfl, rfl⟩
theorem r_4_readOperand_77 : RL M_X4_readOperand 77 2 78 := Or.inl ⟨2, by decide +kernel, rfl, rfl⟩
theorem r_4_readOperand_78 : RC M_X4_readOperand 78 33 80 := ⟨⟨by decide, by decide⟩, Or.inr (Or.inl ⟨by decide +kernel, by decide, rfl⟩)⟩
theorem r_4_readOperand_80 : RB M_X4_readOperand 80 (.if_icmp .eq) 89 83 := ⟨9, by decide +kernel, rfl, rfl⟩
theorem r_4_readOperand_89 : RA M_X4_readOperand 89 0 90 := Or.inl ⟨0, by decide +kernel, rfl, rfl⟩
theorem r_4_readOperand_90 : RL M_X4_readOperand 90 2 91 := Or.inl ⟨2, by decide +kernel, rfl, rfl⟩
theorem r_4_readOperand_91 : RL M_X4_readOperand 91 1 92 := Or.inl ⟨1, by decide +kernel, rfl, rfl⟩
theorem r_4_readOperand_92 : RKv M_X4_readOperand M_X4_readOpen 92 2 4 95 := ⟨62, by decide +kernel, wd_m4_62, ok_M_X4_readOpen, wd_s4_readOpen, rfl⟩
theorem r_4_readOperand_95 : RW M_X4_readOperand 95 .ireturn 96 1 := ⟨by decide +kernel, rfl⟩
theorem r_4_readOperand_83 : RL M_X4_readOperand 83 2 84 := Or.inl ⟨2, by decide +kernel, rfl, rfl⟩
theorem r_4_readOperand_84 : RC M_X4_readOperand 84 40 86 := ⟨⟨by decide, by decide⟩, Or.inr (Or.inl ⟨by decide +kernel, by decide, rfl⟩)⟩
theorem r_4_readOperand_86 : RB M_X4_readOperand 86 (.if_icmp .ne) 96 89 := ⟨10, by decide +kernel, rfl, rfl⟩
theorem r_4_readOperand_96 : RL M_X4_readOperand 96 2 97 := Or.inl ⟨2, by decide +kernel, rfl, rfl⟩
theorem r_4_readOperand_97 : RC M_X4_readOperand 97 (-1) 98 := ⟨⟨by decide, by decide⟩, Or.inl ⟨by decide +kernel, rfl⟩⟩
theorem r_4_readOperand_98 : RB M_X4_readOperand 98 (.if_icmp .ne) 105 101 := ⟨7, by decide +kernel, rfl, rfl⟩
theorem r_4_readOperand_105 : RLT0 M_X4_readOperand 105 107 := ⟨by decide +kernel, rfl, rfl⟩
theorem r_4_readOperand_107 : RL M_X4_readOperand 107 2 108 := Or.inl ⟨2, by decide +kernel, rfl, rfl⟩
theorem r_4_readOperand_108 : RW M_X4_readOperand 108 .i2c 109 1 := ⟨by decide +kernel, rfl⟩
theorem r_4_readOperand_109 : RKt M_X4_readOperand M_J_String_indexOf1 109 1 112 := ⟨67, by decide +kernel, wd_m4_67, ok_M_J_String_indexOf1, wd_sJ_String_indexOf1, rfl⟩
theorem r_4_readOperand_112 : RS M_X4_readOperand 112 4 114 := ⟨by decide, Or.inr ⟨by decide +kernel, rfl⟩⟩
theorem r_4_readOperand_114 : RL M_X4_readOperand 114 4 116 := Or.inr ⟨by decide +kernel, rfl⟩
theorem r_4_readOperand_116 : RB M_X4_readOperand 116 (.ifCond .lt) 129 119 := ⟨13, by decide +kernel, rfl, rfl⟩
theorem r_4_readOperand_129 : RA M_X4_readOperand 129 0 130 := Or.inl ⟨0, by decide +kernel, rfl, rfl⟩
theorem r_4_readOperand_130 : RKv M_X4_readOperand M_X4_fail 130 0 4 133 := ⟨45, by decide +kernel, wd_m4_45, ok_M_X4_fail, wd_s4_fail, rfl⟩
theorem r_4_readOperand_133 : RC M_X4_readOperand 133 0 134 := ⟨⟨by decide, by decide⟩, Or.inl ⟨by decide +kernel, rfl⟩⟩
theorem r_4_readOperand_134 : RW M_X4_readOperand 134 .ireturn 135 1 := ⟨by decide +kernel, rfl⟩
theorem r_4_readOperand_119 : RL M_X4_readOperand 119 4 121 := Or.inr ⟨by decide +kernel, rfl⟩
theorem r_4_readOperand_121 : RA M_X4_readOperand 121 0 122 := Or.inl ⟨0, by decide +kernel, rfl, rfl⟩
theorem r_4_readOperand_122 : RG M_X4_readOperand 122 4 0 125 := ⟨9, _, by decide +kernel, rfl, by decide, wd_f4_9, rfl, rfl⟩
theorem r_4_readOperand_125 : RW M_X4_readOperand 125 .arraylength 126 1 := ⟨by decide +kernel, rfl⟩
theorem r_4_readOperand_126 : RB M_X4_readOperand 126 (.if_icmp .lt) 135 129 := ⟨9, by decide +kernel, rfl, rfl⟩
theorem r_4_readOperand_135 : RA M_X4_readOperand 135 0 136 := Or.inl ⟨0, by decide +kernel, rfl, rfl⟩
theorem r_4_readOperand_136 : RW M_X4_readOperand 136 .dup 137 1 := ⟨by decide +kernel, rfl⟩
theorem r_4_readOperand_137 : RG M_X4_readOperand 137 4 5 140 := ⟨29, _, by decide +kernel, rfl, by decide, wd_f4_29, rfl, rfl⟩
theorem r_4_readOperand_140 : RC M_X4_readOperand 140 1 141 := ⟨⟨by decide, by decide⟩, Or.inl ⟨by decide +kernel, rfl⟩⟩
theorem r_4_readOperand_141 : RW M_X4_readOperand 141 .iadd 142 1 := ⟨by decide +kernel, rfl⟩
theorem r_4_readOperand_142 : RP M_X4_readOperand 142 4 5 145 := ⟨29, _, by decide +kernel, rfl, by decide, wd_f4_29, rfl, Or.inl rfl, rfl⟩
theorem r_4_readOperand_145 : RA M_X4_readOperand 145 0 146 := Or.inl ⟨0, by decide +kernel, rfl, rfl⟩
theorem r_4_readOperand_146 : RG M_X4_readOperand 146 4 0 149 := ⟨9, _, by decide +kernel, rfl, by decide, wd_f4_9, rfl, rfl⟩
theorem r_4_readOperand_149 : RL M_X4_readOperand 149 4 151 := Or.inr ⟨by decide +kernel, rfl⟩
theorem r_4_readOperand_151 : RW M_X4_readOperand 151 .iaload 152 1 := ⟨by decide +kernel, rfl⟩
theorem r_4_readOperand_152 : RW M_X4_readOperand 152 .ireturn 153 1 := ⟨by decide +kernel, rfl⟩
theorem r_4_readOperand_101 : RC M_X4_readOperand 101 (-1) 102 := ⟨⟨by decide, by decide⟩, Or.inl ⟨by decide +kernel, rfl⟩⟩
theorem r_4_readOperand_102 : RB M_X4_readOperand 102 .goto 112 105 := ⟨10, by decide +kernel, rfl, rfl⟩
theorem r_4_readOperand_69 : RL M_X4_readOperand 69 2 70 := Or.inl ⟨2, by decide +kernel, rfl, rfl⟩
theorem r_4_readOperand_70 : RC M_X4_readOperand 70 57 72 := ⟨⟨by decide, by decide⟩, Or.inr (Or.inl ⟨by decide +kernel, by decide, rfl⟩)⟩
theorem r_4_readOperand_72 : RB M_X4_readOperand 72 (.if_icmp .gt) 77 75 := ⟨5, by decide +kernel, rfl, rfl⟩
theorem r_4_readOperand_75 : RL M_X4_readOperand 75 3 76 := Or.inl ⟨3, by decide +kernel, rfl, rfl⟩
theorem r_4_readOperand_76 : RW M_X4_readOperand 76 .ireturn 77 1 := ⟨by decide +kernel, rfl⟩
theorem r_4_readOperand_10 : RL M_X4_readOperand 10 4 12 := Or.inr ⟨by decide +kernel, rfl⟩
theorem r_4_readOperand_12 : RC M_X4_readOperand 12 4 13 := ⟨⟨by decide, by decide⟩, Or.inl ⟨by decide +kernel, rfl⟩⟩
theorem r_4_readOperand_13 : RB M_X4_readOperand 13 (.if_icmp .ge) 63 16 := ⟨50, by decide +kernel, rfl, rfl⟩
theorem r_4_readOperand_16 : RA M_X4_readOperand 16 0 17 := Or.inl ⟨0, by decide +kernel, rfl, rfl⟩
theorem r_4_readOperand_17 : RKv M_X4_readOperand M_X4_sign 17 0 4 20 := ⟨41, by decide +kernel, wd_m4_41, ok_M_X4_sign, wd_s4_sign, rfl⟩
theorem r_4_readOperand_20 : RC M_X4_readOperand 20 48 22 := ⟨⟨by decide, by decide⟩, Or.inr (Or.inl ⟨by decide +kernel, by decide, rfl⟩)⟩
theorem r_4_readOperand_22 : RB M_X4_readOperand 22 (.if_icmp .lt) 63 25 := ⟨41, by decide +kernel, rfl, rfl⟩
theorem r_4_readOperand_25 : RA M_X4_readOperand 25 0 26 := Or.inl ⟨0, by decide +kernel, rfl, rfl⟩
theorem r_4_readOperand_26 : RKv M_X4_readOperand M_X4_sign 26 0 4 29 := ⟨41, by decide +kernel, wd_m4_41, ok_M_X4_sign, wd_s4_sign, rfl⟩
theorem r_4_readOperand_29 : RC M_X4_readOperand 29 57 31 := ⟨⟨by decide, by decide⟩, Or.inr (Or.inl ⟨by decide +kernel, by decide, rfl⟩)⟩
theorem r_4_readOperand_31 : RB M_X4_readOperand 31 (.if_icmp .gt) 63 34 := ⟨32, by decide +kernel, rfl, rfl⟩
theorem r_4_readOperand_34 : RL M_X4_readOperand 34 3 35 := Or.inl ⟨3, by decide +kernel, rfl, rfl⟩
theorem r_4_readOperand_35 : RC M_X4_readOperand 35 10 37 := ⟨⟨by decide, by decide⟩, Or.inr (Or.inl ⟨by decide +kernel, by decide, rfl⟩)⟩
theorem r_4_readOperand_37 : RW M_X4_readOperand 37 .imul 38 1 := ⟨by decide +kernel, rfl⟩
theorem r_4_readOperand_38 : RA M_X4_readOperand 38 0 39 := Or.inl ⟨0, by decide +kernel, rfl, rfl⟩
theorem r_4_readOperand_39 : RKv M_X4_readOperand M_X4_sign 39 0 4 42 := ⟨41, by decide +kernel, wd_m4_41, ok_M_X4_sign, wd_s4_sign, rfl⟩
theorem r_4_readOperand_42 : RW M_X4_readOperand 42 .iadd 43 1 := ⟨by decide +kernel, rfl⟩
theorem r_4_readOperand_43 : RC M_X4_readOperand 43 48 45 := ⟨⟨by decide, by decide⟩, Or.inr (Or.inl ⟨by decide +kernel, by decide, rfl⟩)⟩
theorem r_4_readOperand_45 : RW M_X4_readOperand 45 .isub 46 1 := ⟨by decide +kernel, rfl⟩
theorem r_4_readOperand_46 : RS M_X4_readOperand 46 3 47 := ⟨by decide, Or.inl ⟨3, by decide +kernel, rfl, rfl⟩⟩
theorem r_4_readOperand_47 : RA M_X4_readOperand 47 0 48 := Or.inl ⟨0, by decide +kernel, rfl, rfl⟩
theorem r_4_readOperand_48 : RW M_X4_readOperand 48 .dup 49 1 := ⟨by decide +kernel, rfl⟩
theorem r_4_readOperand_49 : RG M_X4_readOperand 49 4 5 52 := ⟨29, _, by decide +kernel, rfl, by decide, wd_f4_29, rfl, rfl⟩
theorem r_4_readOperand_52 : RC M_X4_readOperand 52 1 53 := ⟨⟨by decide, by decide⟩, Or.inl ⟨by decide +kernel, rfl⟩⟩
theorem r_4_readOperand_53 : RW M_X4_readOperand 53 .iadd 54 1 := ⟨by decide +kernel, rfl⟩
theorem r_4_readOperand_54 : RP M_X4_readOperand 54 4 5 57 := ⟨29, _, by decide +kernel, rfl, by decide, wd_f4_29, rfl, Or.inl rfl, rfl⟩
theorem r_4_readOperand_57 : RI M_X4_readOperand 57 4 1 60 := ⟨by decide, by decide +kernel, rfl⟩
theorem r_4_readOperand_60 : RB M_X4_readOperand 60 .goto 10 63 := ⟨(-50), by decide +kernel, rfl, rfl⟩
theorem r_4_readOpen_0 : RL M_X4_readOpen 0 2 1 := Or.inl ⟨2, by decide +kernel, rfl, rfl⟩
theorem r_4_readOpen_1 : RC M_X4_readOpen 1 8 3 := ⟨⟨by decide, by decide⟩, Or.inr (Or.inl ⟨by decide +kernel, by decide, rfl⟩)⟩
theorem r_4_readOpen_3 : RB M_X4_readOpen 3 (.if_icmp .lt) 12 6 := ⟨9, by decide +kernel, rfl, rfl⟩
theorem r_4_readOpen_12 : RA M_X4_readOpen 12 0 13 := Or.inl ⟨0, by decide +kernel, rfl, rfl⟩
theorem r_4_readOpen_13 : RW M_X4_readOpen 13 .dup 14 1 := ⟨by decide +kernel, rfl⟩
theorem r_4_readOpen_14 : RG M_X4_readOpen 14 4 5 17 := ⟨29, _, by decide +kernel, rfl, by decide, wd_f4_29, rfl, rfl⟩
theorem r_4_readOpen_17 : RC M_X4_readOpen 17 1 18 := ⟨⟨by decide, by decide⟩, Or.inl ⟨by decide +kernel, rfl⟩⟩
theorem r_4_readOpen_18 : RW M_X4_readOpen 18 .iadd 19 1 := ⟨by decide +kernel, rfl⟩
theorem r_4_readOpen_19 : RP M_X4_readOpen 19 4 5 22 := ⟨29, _, by decide +kernel, rfl, by decide, wd_f4_29, rfl, Or.inl rfl, rfl⟩
theorem r_4_readOpen_22 : RL M_X4_readOpen 22 1 23 := Or.inl ⟨1, by decide +kernel, rfl, rfl⟩
theorem r_4_readOpen_23 : RC M_X4_readOpen 23 33 25 := ⟨⟨by decide, by decide⟩, Or.inr (Or.inl ⟨by decide +kernel, by decide, rfl⟩)⟩
theorem r_4_readOpen_25 : RB M_X4_readOpen 25 (.if_icmp .ne) 44 28 := ⟨19, by decide +kernel, rfl, rfl⟩
theorem r_4_readOpen_44 : RA M_X4_readOpen 44 0 45 := Or.inl ⟨0, by decide +kernel, rfl, rfl⟩
theorem r_4_readOpen_45 : RC M_X4_readOpen 45 0 46 := ⟨⟨by decide, by decide⟩, Or.inl ⟨by decide +kernel, rfl⟩⟩
theorem r_4_readOpen_46 : RL M_X4_readOpen 46 2 47 := Or.inl ⟨2, by decide +kernel, rfl, rfl⟩
theorem r_4_readOpen_47 : RC M_X4_readOpen 47 1 48 := ⟨⟨by decide, by decide⟩, Or.inl ⟨by decide +kernel, rfl⟩⟩
theorem r_4_readOpen_48 : RW M_X4_readOpen 48 .iadd 49 1 := ⟨by decide +kernel, rfl⟩
theorem r_4_readOpen_49 : RKv M_X4_readOpen M_X4_readRank 49 2 4 52 := ⟨38, by decide +kernel, wd_m4_38, ok_M_X4_readRank, wd_s4_readRank, rfl⟩
theorem r_4_readOpen_52 : RS M_X4_readOpen 52 3 53 := ⟨by decide, Or.inl ⟨3, by decide +kernel, rfl, rfl⟩⟩
theorem r_4_readOpen_53 : RA M_X4_readOpen 53 0 54 := Or.inl ⟨0, by decide +kernel, rfl, rfl⟩
theorem r_4_readOpen_54 : RKv M_X4_readOpen M_X4_sign 54 0 4 57 := ⟨41, by decide +kernel, wd_m4_41, ok_M_X4_sign, wd_s4_sign, rfl⟩
theorem r_4_readOpen_57 : RC M_X4_readOpen 57 41 59 := ⟨⟨by decide, by decide⟩, Or.inr (Or.inl ⟨by decide +kernel, by decide, rfl⟩)⟩
theorem r_4_readOpen_59 : RB M_X4_readOpen 59 (.if_icmp .ne) 75 62 := ⟨16, by decide +kernel, rfl, rfl⟩
theorem r_4_readOpen_75 : RA M_X4_readOpen 75 0 76 := Or.inl ⟨0, by decide +kernel, rfl, rfl⟩
theorem r_4_readOpen_76 : RKv M_X4_readOpen M_X4_fail 76 0 4 79 := ⟨45, by decide +kernel, wd_m4_45, ok_M_X4_fail, wd_s4_fail, rfl⟩
theorem r_4_readOpen_79 : RL M_X4_readOpen 79 3 80 := Or.inl ⟨3, by decide +kernel, rfl, rfl⟩
theorem r_4_readOpen_80 : RW M_X4_readOpen 80 .ireturn 81 1 := ⟨by decide +kernel, rfl⟩
theorem r_4_readOpen_62 : RA M_X4_readOpen 62 0 63 := Or.inl ⟨0, by decide +kernel, rfl, rfl⟩
theorem r_4_readOpen_63 : RW M_X4_readOpen 63 .dup 64 1 := ⟨by decide +kernel, rfl⟩
theorem r_4_readOpen_64 : RG M_X4_readOpen 64 4 5 67 := ⟨29, _, by decide +kernel, rfl, by decide, wd_f4_29, rfl, rfl⟩
theorem r_4_readOpen_67 : RC M_X4_readOpen 67 1 68 := ⟨⟨by decide, by decide⟩, Or.inl ⟨by decide +kernel, rfl⟩⟩
theorem r_4_readOpen_68 : RW M_X4_readOpen 68 .iadd 69 1 := ⟨by decide +kernel, rfl⟩
theorem r_4_readOpen_69 : RP M_X4_readOpen 69 4 5 72 := ⟨29, _, by decide +kernel, rfl, by decide, wd_f4_29, rfl, Or.inl rfl, rfl⟩
theorem r_4_readOpen_72 : RB M_X4_readOpen 72 .goto 79 75 := ⟨7, by decide +kernel, rfl, rfl⟩
theorem r_4_readOpen_28 : RA M_X4_readOpen 28 0 29 := Or.inl ⟨0, by decide +kernel, rfl, rfl⟩
theorem r_4_readOpen_29 : RL M_X4_readOpen 29 2 30 := Or.inl ⟨2, by decide +kernel, rfl, rfl⟩
theorem r_4_readOpen_30 : RC M_X4_readOpen 30 1 31 := ⟨⟨by decide, by decide⟩, Or.inl ⟨by decide +kernel, rfl⟩⟩
theorem r_4_readOpen_31 : RW M_X4_readOpen 31 .iadd 32 1 := ⟨by decide +kernel, rfl⟩
theorem r_4_readOpen_32 : RKv M_X4_readOpen M_X4_readOperand 32 1 4 35 := ⟨59, by decide +kernel, wd_m4_59, ok_M_X4_readOperand, wd_s4_readOperand, rfl⟩
theorem r_4_readOpen_35 : RB M_X4_readOpen 35 (.ifCond .ne) 42 38 := ⟨7, by decide +kernel, rfl, rfl⟩
theorem r_4_readOpen_42 : RC M_X4_readOpen 42 0 43 := ⟨⟨by decide, by decide⟩, Or.inl ⟨by decide +kernel, rfl⟩⟩
theorem r_4_readOpen_43 : RW M_X4_readOpen 43 .ireturn 44 1 := ⟨by decide +kernel, rfl⟩
theorem r_4_readOpen_38 : RC M_X4_readOpen 38 1 39 := ⟨⟨by decide, by decide⟩, Or.inl ⟨by decide +kernel, rfl⟩⟩
theorem r_4_readOpen_39 : RB M_X4_readOpen 39 .goto 43 42 := ⟨4, by decide +kernel, rfl, rfl⟩
theorem r_4_readOpen_6 : RA M_X4_readOpen 6 0 7 := Or.inl ⟨0, by decide +kernel, rfl, rfl⟩
theorem r_4_readOpen_7 : RKv M_X4_readOpen M_X4_fail 7 0 4 10 := ⟨45, by decide +kernel, wd_m4_45, ok_M_X4_fail, wd_s4_fail, rfl⟩
theorem r_4_readOpen_10 : RC M_X4_readOpen 10 0 11 := ⟨⟨by decide, by decide⟩, Or.inl ⟨by decide +kernel, rfl⟩⟩
theorem r_4_readOpen_11 : RW M_X4_readOpen 11 .ireturn 12 1 := ⟨by decide +kernel, rfl⟩
set_option maxRecDepth 10000 in
theorem sgO {l : Launch} {w : Wo} {d : Nat} {G : PH} {P : Option PV → PH → Prop} {cb : Nat} {rb n a : Int} {b : Int → Int} (hby : gD G 4 0 3 = some (cb, rb)) (hsh : shp cb = (1, 160, 1)) (hb : ∀ j, 0 ≤ j → j < n → b j = pAnd (gA G cb rb j) 255) (hn : (gF G 4 0 4) = n) (ha : (gF G 4 0 5) = a) (hf : (gF G 4 0 1) < 0) (hnn : n ≤ 160) (haa : 0 ≤ a ∧ a ≤ n) (hP : P (some (vI (sgn b n a))) G) : PW l w M_X4_sign (d + 0) 0 [some (vR 4 (0))] [] G P := by
  refine pw_aload r_4_sign_0 rfl ?_
  refine pw_getI r_4_sign_1 fs_4_1 (by decide) ?_
  refine pw_if_ge r_4_sign_4 (fun h04 => ?_) (fun h04 => ?_)
  · skip
    refine pw_const r_4_sign_41 ?_
    refine pw_iret r_4_sign_42 rfl (Nat.le_refl _) ⟨rfl, ?_⟩
    first | (exfalso; omega) | (rw [show sgn b n a = -1 from if_neg (by omega)] at hP; exact hP) | (rw [show sgn b n a = pAnd (gA G cb rb (gF G 4 0 5)) 255 from (if_pos (by omega)).trans (by rw [ha]; exact hb a (by omega) (by omega))] at hP; exact hP)
  · skip
    refine pw_aload r_4_sign_7 rfl ?_
    refine pw_getI r_4_sign_8 fs_4_5 (by decide) ?_
    refine pw_if_lt r_4_sign_11 (fun h11 => ?_) (fun h11 => ?_)
    · skip
      refine pw_const r_4_sign_41 ?_
      refine pw_iret r_4_sign_42 rfl (Nat.le_refl _) ⟨rfl, ?_⟩
      first | (exfalso; omega) | (rw [show sgn b n a = -1 from if_neg (by omega)] at hP; exact hP) | (rw [show sgn b n a = pAnd (gA G cb rb (gF G 4 0 5)) 255 from (if_pos (by omega)).trans (by rw [ha]; exact hb a (by omega) (by omega))] at hP; exact hP)
    · skip
      refine pw_aload r_4_sign_14 rfl ?_
      refine pw_getI r_4_sign_15 fs_4_5 (by decide) ?_
      refine pw_aload r_4_sign_18 rfl ?_
      refine pw_getI r_4_sign_19 fs_4_4 (by decide) ?_
      refine pw_icmp_ge r_4_sign_22 (fun h22 => ?_) (fun h22 => ?_)
      · skip
        refine pw_const r_4_sign_41 ?_
        refine pw_iret r_4_sign_42 rfl (Nat.le_refl _) ⟨rfl, ?_⟩
        first | (exfalso; omega) | (rw [show sgn b n a = -1 from if_neg (by omega)] at hP; exact hP) | (rw [show sgn b n a = pAnd (gA G cb rb (gF G 4 0 5)) 255 from (if_pos (by omega)).trans (by rw [ha]; exact hb a (by omega) (by omega))] at hP; exact hP)
      · skip
        refine pw_aload r_4_sign_25 rfl ?_
        refine pw_getBv r_4_sign_26 (by first | exact hby | (first | rfl | simp [gF_sF, gF_sA, gF_uA, gF_sD, gA_sF, gA_sA, gA_uA, gA_sD, gD_sF, gD_sA, gD_uA, gD_sD])) ?_
        refine pw_aload r_4_sign_29 rfl ?_
        refine pw_getI r_4_sign_30 fs_4_5 (by decide) ?_
        refine pw_bald r_4_sign_33 hsh (by omega) (by omega) ?_
        refine pw_const r_4_sign_34 ?_
        refine pw_iand r_4_sign_37 ?_
        refine pw_goto r_4_sign_38 ?_
        refine pw_iret r_4_sign_42 rfl (Nat.le_refl _) ⟨rfl, ?_⟩
        first | (exfalso; omega) | (rw [show sgn b n a = -1 from if_neg (by omega)] at hP; exact hP) | (rw [show sgn b n a = pAnd (gA G cb rb (gF G 4 0 5)) 255 from (if_pos (by omega)).trans (by rw [ha]; exact hb a (by omega) (by omega))] at hP; exact hP)
set_option maxRecDepth 10000 in
theorem sgF {l : Launch} {w : Wo} {d : Nat} {G : PH} {P : Option PV → PH → Prop} (hf9 : 0 ≤ (gF G 4 0 1)) (hP : P (some (vI (-1))) G) : PW l w M_X4_sign (d + 0) 0 [some (vR 4 (0))] [] G P := by
  refine pw_aload r_4_sign_0 rfl ?_
  refine pw_getI r_4_sign_1 fs_4_1 (by decide) ?_
  refine pw_if_ge r_4_sign_4 (fun h04 => ?_) (fun h04 => absurd h04 (by omega))
  refine pw_const r_4_sign_41 ?_
  refine pw_iret r_4_sign_42 rfl (Nat.le_refl _) ⟨rfl, ?_⟩
  exact hP
set_option maxRecDepth 10000 in
theorem flO {l : Launch} {w : Wo} {d : Nat} {G : PH} {P : Option PV → PH → Prop} {a : Int} (ha : (gF G 4 0 5) = a) (hf : (gF G 4 0 1) < 0) (hP : P none (sF G 4 0 1 a)) : PW l w M_X4_fail (d + 0) 0 [some (vR 4 (0))] [] G P := by
  refine pw_aload r_4_fail_0 rfl ?_
  refine pw_getI r_4_fail_1 fs_4_1 (by decide) ?_
  refine pw_if_ge r_4_fail_4 (fun h04 => ?_) (fun h04 => ?_)
  · skip
    refine pw_vret r_4_fail_15 rfl (Nat.le_refl _) ⟨rfl, ?_⟩
    first | (exfalso; omega) | (rw [← ha] at hP; exact hP)
  · skip
    refine pw_aload r_4_fail_7 rfl ?_
    refine pw_aload r_4_fail_8 rfl ?_
    refine pw_getI r_4_fail_9 fs_4_5 (by decide) ?_
    refine pw_putI r_4_fail_12 (by decide +kernel) fs_4_1 (by decide) ?_
    refine pw_vret r_4_fail_15 rfl (Nat.le_refl _) ⟨rfl, ?_⟩
    first | (exfalso; omega) | (rw [← ha] at hP; exact hP)
set_option maxRecDepth 10000 in
theorem flF {l : Launch} {w : Wo} {d : Nat} {G : PH} {P : Option PV → PH → Prop} (hf9 : 0 ≤ (gF G 4 0 1)) (hP : P none G) : PW l w M_X4_fail (d + 0) 0 [some (vR 4 (0))] [] G P := by
  refine pw_aload r_4_fail_0 rfl ?_
  refine pw_getI r_4_fail_1 fs_4_1 (by decide) ?_
  refine pw_if_ge r_4_fail_4 (fun h04 => ?_) (fun h04 => ?_)
  · skip
    refine pw_vret r_4_fail_15 rfl (Nat.le_refl _) ⟨rfl, ?_⟩
    first | exact hP | (exfalso; omega)
  · skip
    refine pw_aload r_4_fail_7 rfl ?_
    refine pw_aload r_4_fail_8 rfl ?_
    refine pw_getI r_4_fail_9 fs_4_5 (by decide) ?_
    refine pw_putI r_4_fail_12 (by decide +kernel) fs_4_1 (by decide) ?_
    refine pw_vret r_4_fail_15 rfl (Nat.le_refl _) ⟨rfl, ?_⟩
    first | exact hP | (exfalso; omega)
set_option maxRecDepth 10000 in
theorem sp_X4_readRank_s {l : Launch} {w : Wo} (nR : Nat) (hP2 : ∀ {d : Nat} {G : PH} {P : Option PV → PH → Prop} {cb : Nat} {rb r o n a : Int} {b e : Int → Int}, (13 * (8 - o) + 2 * (5 - r) + 3 < (nR : Int)) → (gD G 4 0 3 = some (cb, rb)) → (shp cb = (1, 160, 1)) → (∀ j, 0 ≤ j → j < n → b j = pAnd (gA G cb rb j) 255) → ((gF G 4 0 4) = n) → ((gF G 4 0 5) = a) → ((gF G 4 0 1) < 0) → (n ≤ 160) → (0 ≤ a ∧ a ≤ n) → (∀ j, 0 ≤ j → j < 9 → (gA G 46 0 (j)) = e j) → (0 ≤ r ∧ r ≤ 5) → (0 ≤ o ∧ o ≤ 8) → (∀ f v, EvX b n r o a none (.inl f) → a ≤ f → f ≤ n → P (some (vI v)) (sF (sF G 4 0 5 f) 4 0 1 f)) → (∀ a1 s1, EvX b n r o a none (.inr (a1, s1)) → a ≤ a1 → a1 ≤ n → P (some (vI (s1 e))) (sF G 4 0 5 a1)) → PW l w M_X4_readPart (d + nR + 3) 0 [some (vR 4 (0)), some (vI (r)), some (vI (o))] [] G P) : ∀ {d : Nat} {G : PH} {P : Option PV → PH → Prop} {cb : Nat} {rb r o n a : Int} {b e : Int → Int}, (13 * (8 - o) + 2 * (5 - r) + 2 < ((nR + 1) : Int)) → (gD G 4 0 3 = some (cb, rb)) → (shp cb = (1, 160, 1)) → (∀ j, 0 ≤ j → j < n → b j = pAnd (gA G cb rb j) 255) → ((gF G 4 0 4) = n) → ((gF G 4 0 5) = a) → ((gF G 4 0 1) < 0) → (n ≤ 160) → (0 ≤ a ∧ a ≤ n) → (∀ j, 0 ≤ j → j < 9 → (gA G 46 0 (j)) = e j) → (0 ≤ r ∧ r ≤ 4) → (0 ≤ o ∧ o ≤ 8) → (∀ f v, EvX b n r o a none (.inl f) → a ≤ f → f ≤ n → P (some (vI v)) (sF (sF G 4 0 5 f) 4 0 1 f)) → (∀ a1 s1, EvX b n r o a none (.inr (a1, s1)) → a ≤ a1 → a1 ≤ n → P (some (vI (s1 e))) (sF G 4 0 5 a1)) → PW l w M_X4_readRank (d + (nR + 1) + 3) 0 [some (vR 4 (0)), some (vI (r)), some (vI (o)), none, none, none, none] [] G P := by
  intro d G P cb rb r o n a b e hM hby hsh hb hn ha hf hnn haa hve hr ho h1 h2
  rw [show d + (nR + 1) + 3 = d + nR + 4 by omega]
  refine pw_aload r_4_readRank_0 rfl ?_
  refine pw_iload r_4_readRank_1 rfl ?_
  refine pw_const r_4_readRank_2 ?_
  refine pw_iadd r_4_readRank_3 (by omega) ?_
  refine pw_iload r_4_readRank_4 rfl ?_
  refine pw_callV (av := [vI ((r + 1)), vI (o)]) (st := []) (ls0 := [some (vR 4 (0)), some (vI ((r + 1))), some (vI (o))]) r_4_readRank_5 rfl rfl rfl (Nat.le_refl _) ?_
  refine hP2 (d := d) (cb := cb) (rb := rb) (n := n) (b := b) (a := a) (o := o) (e := e) (r := (r + 1)) (by omega) (by exact hby) (hsh) (by exact hb) (by first | exact hn | (simp (disch := decide) only [gF_sF]; first | done | exact hn | omega | (simp; first | done | omega))) (by first | exact ha | rfl | (simp (disch := decide) only [gF_sF]; first | done | omega | (simp; first | done | omega))) (by first | exact hf | (simp (disch := decide) only [gF_sF]; first | done | exact hf | omega | (simp; first | done | omega))) (by first | assumption | exact hnn | omega) (by first | assumption | exact haa | omega) (by exact hve) (by first | assumption | exact hr | omega) (by first | assumption | exact ho | omega) ?_ ?_
  · skip
    intro f1 v1 q1 q2 q3
    have hF : EvX b n r o a none (.inl f1) := EvX_levF (by omega) q1
    refine pw_istore (ls' := [some (vR 4 (0)), some (vI (r)), some (vI (o)), some (vI (v1)), none, none, none]) r_4_readRank_8 rfl rfl ?_
    refine pw_iload r_4_readRank_9 rfl ?_
    refine pw_const r_4_readRank_10 ?_
    refine pw_icmp_ne r_4_readRank_11 (fun h11 => ?_) (fun h11 => ?_)
    · skip
      refine pw_aload r_4_readRank_18 rfl ?_
      refine pw_getIv (v := gF G 4 (0) 4) r_4_readRank_19 fs_4_4 (by decide) (by first | rfl | simp [gF_sF, gF_sA, gF_uA, gF_sD, gA_sF, gA_sA, gA_uA, gA_sD, gD_sF, gD_sA, gD_uA, gD_sD]) ?_
      refine pw_istore (ls' := [some (vR 4 (0)), some (vI (r)), some (vI (o)), some (vI (v1)), some (vI (gF G 4 (0) 4)), none, none]) r_4_readRank_22 rfl rfl ?_
      refine pw_const r_4_readRank_24 ?_
      refine pw_istore (ls' := [some (vR 4 (0)), some (vI (r)), some (vI (o)), some (vI (v1)), some (vI (gF G 4 (0) 4)), some (vI (0)), none]) r_4_readRank_25 rfl rfl ?_
      refine pw_iload r_4_readRank_27 rfl ?_
      refine pw_iload r_4_readRank_29 rfl ?_
      refine pw_icmp_ge r_4_readRank_31 (fun h31 => ?_) (fun h31 => ?_)
      · skip
        refine pw_iload r_4_readRank_82 rfl ?_
        refine pw_iret r_4_readRank_83 rfl (Nat.le_refl _) ⟨rfl, ?_⟩
        exact h1 f1 _ hF (by omega) (by omega)
      · skip
        refine pw_aload r_4_readRank_34 rfl ?_
        refine pw_callV (av := []) (st := []) (ls0 := [some (vR 4 (0))]) r_4_readRank_35 rfl rfl rfl (Nat.le_refl _) ?_
        refine sgF (by first | (show 0 ≤ f1; omega) | (simp (disch := decide) only [gF_sF]; first | done | omega | (simp; first | done | omega))) ?_
        refine pw_callS (av := [vI (-1)]) (st := []) (ls0 := [some (vI (-1))]) r_4_readRank_38 rfl rfl rfl (Nat.le_refl _) ?_
        refine sp_X4_rankOf  ?_
        refine pw_top (b := -1) (by decide) ?_
        refine pw_iload r_4_readRank_41 rfl ?_
        refine pw_icmp_ne r_4_readRank_42 (fun h42 => ?_) (fun h42 => absurd h42 (by omega))
        refine pw_iload r_4_readRank_82 rfl ?_
        refine pw_iret r_4_readRank_83 rfl (Nat.le_refl _) ⟨rfl, ?_⟩
        exact h1 f1 _ hF (by omega) (by omega)
    · skip
      refine pw_const r_4_readRank_14 ?_
      refine pw_goto r_4_readRank_15 ?_
      refine pw_istore (ls' := [some (vR 4 (0)), some (vI (r)), some (vI (o)), some (vI (v1)), some (vI (1)), none, none]) r_4_readRank_22 rfl rfl ?_
      refine pw_const r_4_readRank_24 ?_
      refine pw_istore (ls' := [some (vR 4 (0)), some (vI (r)), some (vI (o)), some (vI (v1)), some (vI (1)), some (vI (0)), none]) r_4_readRank_25 rfl rfl ?_
      refine pw_iload r_4_readRank_27 rfl ?_
      refine pw_iload r_4_readRank_29 rfl ?_
      refine pw_icmp_ge r_4_readRank_31 (fun h31 => ?_) (fun h31 => ?_)
      · skip
        refine pw_iload r_4_readRank_82 rfl ?_
        refine pw_iret r_4_readRank_83 rfl (Nat.le_refl _) ⟨rfl, ?_⟩
        exact h1 f1 _ hF (by omega) (by omega)
      · skip
        refine pw_aload r_4_readRank_34 rfl ?_
        refine pw_callV (av := []) (st := []) (ls0 := [some (vR 4 (0))]) r_4_readRank_35 rfl rfl rfl (Nat.le_refl _) ?_
        refine sgF (by first | (show 0 ≤ f1; omega) | (simp (disch := decide) only [gF_sF]; first | done | omega | (simp; first | done | omega))) ?_
        refine pw_callS (av := [vI (-1)]) (st := []) (ls0 := [some (vI (-1))]) r_4_readRank_38 rfl rfl rfl (Nat.le_refl _) ?_
        refine sp_X4_rankOf  ?_
        refine pw_top (b := -1) (by decide) ?_
        refine pw_iload r_4_readRank_41 rfl ?_
        refine pw_icmp_ne r_4_readRank_42 (fun h42 => ?_) (fun h42 => absurd h42 (by omega))
        refine pw_iload r_4_readRank_82 rfl ?_
        refine pw_iret r_4_readRank_83 rfl (Nat.le_refl _) ⟨rfl, ?_⟩
        exact h1 f1 _ hF (by omega) (by omega)
  · skip
    intro a1 s1 q1 q2 q3
    refine pw_istore (ls' := [some (vR 4 (0)), some (vI (r)), some (vI (o)), some (vI (s1 e)), none, none, none]) r_4_readRank_8 rfl rfl ?_
    refine pw_iload r_4_readRank_9 rfl ?_
    refine pw_const r_4_readRank_10 ?_
    refine pw_icmp_ne r_4_readRank_11 (fun h11 => ?_) (fun h11 => ?_)
    · skip
      refine pw_aload r_4_readRank_18 rfl ?_
      refine pw_getIv (v := gF G 4 (0) 4) r_4_readRank_19 fs_4_4 (by decide) (by first | rfl | simp [gF_sF, gF_sA, gF_uA, gF_sD, gA_sF, gA_sA, gA_uA, gA_sD, gD_sF, gD_sA, gD_uA, gD_sD]) ?_
      refine pw_istore (ls' := [some (vR 4 (0)), some (vI (r)), some (vI (o)), some (vI (s1 e)), some (vI (gF G 4 (0) 4)), none, none]) r_4_readRank_22 rfl rfl ?_
      refine pw_const r_4_readRank_24 ?_
      refine pw_istore (ls' := [some (vR 4 (0)), some (vI (r)), some (vI (o)), some (vI (s1 e)), some (vI (gF G 4 (0) 4)), some (vI (0)), none]) r_4_readRank_25 rfl rfl ?_
      have L27 : ∀ (nF : Nat) (i p : Int) (s : Sem), (hi : 0 ≤ i ∧ (r = 2 → i ≤ 1) ∧ (r ≠ 2 → i ≤ p)) → (hp : a ≤ p ∧ p ≤ n) → (hK : (r = 2 ∧ i = 1 ∧ EvX b n r o a none (.inr (p, s))) ∨ (¬ (r = 2 ∧ i = 1) ∧ ∀ res, EvX b n r o p (some s) res → EvX b n r o a none res)) → (n - p).toNat < nF → PW l w M_X4_readRank (d + nR + 4) 27 [some (vR 4 (0)), some (vI (r)), some (vI (o)), some (vI (s e)), some (vI (gF G 4 (0) 4)), some (vI (i)), none] [] (sF G 4 (0) 5 (p)) P := by
        intro nF
        induction nF with
        | zero => intro _ _ _ _ _ _ hM; exact absurd hM (Nat.not_lt_zero _)
        | succ nF ih27 =>
          intro i p s hi hp hK hM27
          refine pw_iload r_4_readRank_27 rfl ?_
          refine pw_iload r_4_readRank_29 rfl ?_
          refine pw_icmp_ge r_4_readRank_31 (fun h31 => ?_) (fun h31 => ?_)
          · skip
            refine pw_iload r_4_readRank_82 rfl ?_
            refine pw_iret r_4_readRank_83 rfl (Nat.le_refl _) ⟨rfl, ?_⟩
            refine h2 p s ?_ (by omega) (by omega)
            rcases hK with z | z
            · exact z.2.2
            · have z1 := z.1
              first | exact z.2 _ (EvX_end h42) | exact z.2 _ (EvX_end (by rw [sgn_out (by omega), rk_neg]; omega)) | (exfalso; omega)
          · skip
            refine pw_aload r_4_readRank_34 rfl ?_
            refine pw_callV (av := []) (st := []) (ls0 := [some (vR 4 (0))]) r_4_readRank_35 rfl rfl rfl (Nat.le_refl _) ?_
            refine sgO (cb := cb) (rb := rb) (n := n) (b := b) (a := p) (by exact hby) (hsh) (by exact hb) (by first | exact hn | (simp (disch := decide) only [gF_sF]; first | done | exact hn | omega | (simp; first | done | omega))) (by first | exact ha | rfl | (simp (disch := decide) only [gF_sF]; first | done | omega | (simp; first | done | omega))) (by first | exact hf | (simp (disch := decide) only [gF_sF]; first | done | exact hf | omega | (simp; first | done | omega))) (by first | assumption | exact hnn | omega) (by first | assumption | exact haa | omega) ?_
            refine pw_callS (av := [vI (sgn b n p)]) (st := []) (ls0 := [some (vI (sgn b n p))]) r_4_readRank_38 rfl rfl rfl (Nat.le_refl _) ?_
            refine sp_X4_rankOf  ?_
            refine pw_iload r_4_readRank_41 rfl ?_
            refine pw_icmp_ne r_4_readRank_42 (fun h42 => ?_) (fun h42 => ?_)
            · skip
              refine pw_iload r_4_readRank_82 rfl ?_
              refine pw_iret r_4_readRank_83 rfl (Nat.le_refl _) ⟨rfl, ?_⟩
              refine h2 p s ?_ (by omega) (by omega)
              rcases hK with z | z
              · exact z.2.2
              · have z1 := z.1
                first | exact z.2 _ (EvX_end h42) | exact z.2 _ (EvX_end (by rw [sgn_out (by omega), rk_neg]; omega)) | (exfalso; omega)
            · skip
              have hpn : p < n := sgn_lt (b := b) (fun z => by rw [z, rk_neg] at h42; omega)
              refine pw_aload r_4_readRank_45 rfl ?_
              refine pw_callV (av := []) (st := []) (ls0 := [some (vR 4 (0))]) r_4_readRank_46 rfl rfl rfl (Nat.le_refl _) ?_
              refine sgO (cb := cb) (rb := rb) (n := n) (b := b) (a := p) (by exact hby) (hsh) (by exact hb) (by first | exact hn | (simp (disch := decide) only [gF_sF]; first | done | exact hn | omega | (simp; first | done | omega))) (by first | exact ha | rfl | (simp (disch := decide) only [gF_sF]; first | done | omega | (simp; first | done | omega))) (by first | exact hf | (simp (disch := decide) only [gF_sF]; first | done | exact hf | omega | (simp; first | done | omega))) (by first | assumption | exact hnn | omega) (by first | assumption | exact haa | omega) ?_
              refine pw_istore (ls' := [some (vR 4 (0)), some (vI (r)), some (vI (o)), some (vI (s e)), some (vI (gF G 4 (0) 4)), some (vI (i)), some (vI (sgn b n p))]) r_4_readRank_49 rfl rfl ?_
              refine pw_aload r_4_readRank_51 rfl ?_
              refine pw_dup r_4_readRank_52 rfl ?_
              refine pw_getIv (v := p) r_4_readRank_53 fs_4_5 (by decide) (by first | rfl | simp [gF_sF, gF_sA, gF_uA, gF_sD, gA_sF, gA_sA, gA_uA, gA_sD, gD_sF, gD_sA, gD_uA, gD_sD]) ?_
              refine pw_const r_4_readRank_56 ?_
              refine pw_iadd r_4_readRank_57 (by omega) ?_
              refine pw_putI r_4_readRank_58 (by decide +kernel) fs_4_5 (by decide) ?_
              refine pw_iload r_4_readRank_61 rfl ?_
              refine pw_iload r_4_readRank_63 rfl ?_
              refine pw_aload r_4_readRank_64 rfl ?_
              refine pw_iload r_4_readRank_65 rfl ?_
              refine pw_const r_4_readRank_66 ?_
              refine pw_iadd r_4_readRank_67 (by omega) ?_
              refine pw_iload r_4_readRank_68 rfl ?_
              refine pw_callV (av := [vI ((r + 1)), vI (o)]) (st := [vI (s e), vI (sgn b n p)]) (ls0 := [some (vR 4 (0)), some (vI ((r + 1))), some (vI (o))]) r_4_readRank_69 rfl rfl rfl (Nat.le_refl _) ?_
              refine hP2 (d := d) (cb := cb) (rb := rb) (n := n) (b := b) (a := (p + 1)) (o := o) (e := e) (r := (r + 1)) (by omega) (by exact hby) (hsh) (by exact hb) (by first | exact hn | (simp (disch := decide) only [gF_sF]; first | done | exact hn | omega | (simp; first | done | omega))) (by first | exact ha | rfl | (simp (disch := decide) only [gF_sF]; first | done | omega | (simp; first | done | omega))) (by first | exact hf | (simp (disch := decide) only [gF_sF]; first | done | exact hf | omega | (simp; first | done | omega))) (by first | assumption | exact hnn | omega) (by first | assumption | exact haa | omega) (by exact hve) (by first | assumption | exact hr | omega) (by first | assumption | exact ho | omega) ?_ ?_
              · skip
                intro f1 v1 q1 q2 q3
                have hF : EvX b n r o a none (.inl f1) := by
                  rcases hK with z | z
                  · exfalso
                    have z1 := z.1
                    have z2 := z.2.1
                    omega
                  · exact z.2 _ (EvX_moreF h42 q1)
                refine pw_callS (av := [vI (sgn b n p), vI (s e), vI (v1)]) (st := []) (ls0 := [some (vI (sgn b n p)), some (vI (s e)), some (vI (v1))]) r_4_readRank_72 rfl rfl rfl (Nat.le_refl _) ?_
                refine sp_X4_work (by omega) ?_
                refine pw_istore (ls' := [some (vR 4 (0)), some (vI (r)), some (vI (o)), some (vI (wk (sgn b n p) (s e) v1)), some (vI (gF G 4 (0) 4)), some (vI (i)), some (vI (sgn b n p))]) r_4_readRank_75 rfl rfl ?_
                refine pw_iinc (b := 0) (ls' := [some (vR 4 (0)), some (vI (r)), some (vI (o)), some (vI (wk (sgn b n p) (s e) v1)), some (vI (gF G 4 (0) 4)), some (vI ((i + 1))), some (vI (sgn b n p))]) r_4_readRank_76 rfl rfl (by omega) rfl ?_
                refine pw_goto r_4_readRank_79 ?_
                refine pw_iload r_4_readRank_27 rfl ?_
                refine pw_iload r_4_readRank_29 rfl ?_
                refine pw_icmp_ge r_4_readRank_31 (fun h31 => ?_) (fun h31 => ?_)
                · skip
                  refine pw_iload r_4_readRank_82 rfl ?_
                  refine pw_eqG (G' := sF (sF G 4 (0) 5 (f1)) 4 (0) 1 (f1)) (by first | rfl | (rw [uA_self]; done) | (rw [sA_uA]; done) | (rw [sA_eq]; done) | (simp (disch := decide) only [sA_uA, sA_uA_ne, uA_abs, uA_abs2, uA_uA]; done) | (simp (disch := decide) only [sA_eq, sA_uA, sA_uA_ne, uA_abs, uA_abs2, uA_uA]; done) | (refine PH_ext (fun _ _ _ => ?_) (fun _ _ _ => ?_) (fun _ _ _ => ?_) <;> simp only [gF_sF, gF_sA, gF_uA, gF_sD, gA_sF, gA_sA, gA_uA, gA_sD, gD_sF, gD_sA, gD_uA, gD_sD] <;> (repeat' split) <;> first | rfl | (exfalso; omega) | simp_all)) ?_
                  refine pw_iret r_4_readRank_83 rfl (Nat.le_refl _) ⟨rfl, ?_⟩
                  exact h1 f1 _ hF (by omega) (by omega)
                · skip
                  refine pw_aload r_4_readRank_34 rfl ?_
                  refine pw_callV (av := []) (st := []) (ls0 := [some (vR 4 (0))]) r_4_readRank_35 rfl rfl rfl (Nat.le_refl _) ?_
                  refine sgF (by first | (show 0 ≤ f1; omega) | (simp (disch := decide) only [gF_sF]; first | done | omega | (simp; first | done | omega))) ?_
                  refine pw_callS (av := [vI (-1)]) (st := []) (ls0 := [some (vI (-1))]) r_4_readRank_38 rfl rfl rfl (Nat.le_refl _) ?_
                  refine sp_X4_rankOf  ?_
                  refine pw_top (b := -1) (by decide) ?_
                  refine pw_iload r_4_readRank_41 rfl ?_
                  refine pw_icmp_ne r_4_readRank_42 (fun h42 => ?_) (fun h42 => absurd h42 (by omega))
                  refine pw_iload r_4_readRank_82 rfl ?_
                  refine pw_eqG (G' := sF (sF G 4 (0) 5 (f1)) 4 (0) 1 (f1)) (by first | rfl | (rw [uA_self]; done) | (rw [sA_uA]; done) | (rw [sA_eq]; done) | (simp (disch := decide) only [sA_uA, sA_uA_ne, uA_abs, uA_abs2, uA_uA]; done) | (simp (disch := decide) only [sA_eq, sA_uA, sA_uA_ne, uA_abs, uA_abs2, uA_uA]; done) | (refine PH_ext (fun _ _ _ => ?_) (fun _ _ _ => ?_) (fun _ _ _ => ?_) <;> simp only [gF_sF, gF_sA, gF_uA, gF_sD, gA_sF, gA_sA, gA_uA, gA_sD, gD_sF, gD_sA, gD_uA, gD_sD] <;> (repeat' split) <;> first | rfl | (exfalso; omega) | simp_all)) ?_
                  refine pw_iret r_4_readRank_83 rfl (Nat.le_refl _) ⟨rfl, ?_⟩
                  exact h1 f1 _ hF (by omega) (by omega)
              · skip
                intro a1 s1 q1 q2 q3
                refine pw_callS (av := [vI (sgn b n p), vI (s e), vI (s1 e)]) (st := []) (ls0 := [some (vI (sgn b n p)), some (vI (s e)), some (vI (s1 e))]) r_4_readRank_72 rfl rfl rfl (Nat.le_refl _) ?_
                refine sp_X4_work (by omega) ?_
                refine pw_istore (ls' := [some (vR 4 (0)), some (vI (r)), some (vI (o)), some (vI (wk (sgn b n p) (s e) (s1 e))), some (vI (gF G 4 (0) 4)), some (vI (i)), some (vI (sgn b n p))]) r_4_readRank_75 rfl rfl ?_
                refine pw_iinc (b := 0) (ls' := [some (vR 4 (0)), some (vI (r)), some (vI (o)), some (vI (wk (sgn b n p) (s e) (s1 e))), some (vI (gF G 4 (0) 4)), some (vI ((i + 1))), some (vI (sgn b n p))]) r_4_readRank_76 rfl rfl (by omega) rfl ?_
                refine pw_goto r_4_readRank_79 ?_
                refine pw_weakL (ls' := [some (vR 4 (0)), some (vI (r)), some (vI (o)), some (vI ((fun e0 => wk (sgn b n p) (s e0) (s1 e0)) e)), some (vI (gF G 4 (0) 4)), some (vI ((i + 1))), none]) (⟨rfl, ⟨rfl, ⟨rfl, ⟨rfl, ⟨rfl, ⟨rfl, trivial⟩⟩⟩⟩⟩⟩) ?_
                refine pw_eqG (G' := sF G 4 (0) 5 (a1)) (by first | rfl | (rw [uA_self]; done) | (rw [sA_uA]; done) | (rw [sA_eq]; done) | (simp (disch := decide) only [sA_uA, sA_uA_ne, uA_abs, uA_abs2, uA_uA]; done) | (simp (disch := decide) only [sA_eq, sA_uA, sA_uA_ne, uA_abs, uA_abs2, uA_uA]; done) | (refine PH_ext (fun _ _ _ => ?_) (fun _ _ _ => ?_) (fun _ _ _ => ?_) <;> simp only [gF_sF, gF_sA, gF_uA, gF_sD, gA_sF, gA_sA, gA_uA, gA_sD, gD_sF, gD_sA, gD_uA, gD_sD] <;> (repeat' split) <;> first | rfl | (exfalso; omega) | simp_all)) ?_
                refine ih27 ((i + 1)) (a1) ((fun e0 => wk (sgn b n p) (s e0) (s1 e0))) (by first | assumption | omega) (by first | assumption | omega) ?_ (by omega)
                · skip
                  rcases hK with z | z
                  · exfalso
                    have z1 := z.1
                    have z2 := z.2.1
                    omega
                  · by_cases hr2 : r = 2
                    · exact Or.inl ⟨hr2, by omega, z.2 _ (EvX_cmp2 hr2 h42 q1)⟩
                    · exact Or.inr ⟨by omega, fun res hres => z.2 _ (EvX_more h42 hr2 q1 hres)⟩
      exact L27 _ (0) (a1) (s1) (by first | assumption | omega) (by first | assumption | omega) (Or.inr ⟨by omega, fun res hres => EvX_lev (by omega) q1 hres⟩) (Nat.lt_succ_self _)
    · skip
      refine pw_const r_4_readRank_14 ?_
      refine pw_goto r_4_readRank_15 ?_
      refine pw_istore (ls' := [some (vR 4 (0)), some (vI (r)), some (vI (o)), some (vI (s1 e)), some (vI (1)), none, none]) r_4_readRank_22 rfl rfl ?_
      refine pw_const r_4_readRank_24 ?_
      refine pw_istore (ls' := [some (vR 4 (0)), some (vI (r)), some (vI (o)), some (vI (s1 e)), some (vI (1)), some (vI (0)), none]) r_4_readRank_25 rfl rfl ?_
      have L27 : ∀ (nF : Nat) (i p : Int) (s : Sem), (hi : 0 ≤ i ∧ (r = 2 → i ≤ 1) ∧ (r ≠ 2 → i ≤ p)) → (hp : a ≤ p ∧ p ≤ n) → (hK : (r = 2 ∧ i = 1 ∧ EvX b n r o a none (.inr (p, s))) ∨ (¬ (r = 2 ∧ i = 1) ∧ ∀ res, EvX b n r o p (some s) res → EvX b n r o a none res)) → (n - p).toNat < nF → PW l w M_X4_readRank (d + nR + 4) 27 [some (vR 4 (0)), some (vI (r)), some (vI (o)), some (vI (s e)), some (vI (1)), some (vI (i)), none] [] (sF G 4 (0) 5 (p)) P := by
        intro nF
        induction nF with
        | zero => intro _ _ _ _ _ _ hM; exact absurd hM (Nat.not_lt_zero _)
        | succ nF ih27 =>
          intro i p s hi hp hK hM27
          refine pw_iload r_4_readRank_27 rfl ?_
          refine pw_iload r_4_readRank_29 rfl ?_
          refine pw_icmp_ge r_4_readRank_31 (fun h31 => ?_) (fun h31 => ?_)
          · skip
            refine pw_iload r_4_readRank_82 rfl ?_
            refine pw_iret r_4_readRank_83 rfl (Nat.le_refl _) ⟨rfl, ?_⟩
            refine h2 p s ?_ (by omega) (by omega)
            rcases hK with z | z
            · exact z.2.2
            · have z1 := z.1
              first | exact z.2 _ (EvX_end h42) | exact z.2 _ (EvX_end (by rw [sgn_out (by omega), rk_neg]; omega)) | (exfalso; omega)
          · skip
            refine pw_aload r_4_readRank_34 rfl ?_
            refine pw_callV (av := []) (st := []) (ls0 := [some (vR 4 (0))]) r_4_readRank_35 rfl rfl rfl (Nat.le_refl _) ?_
            refine sgO (cb := cb) (rb := rb) (n := n) (b := b) (a := p) (by exact hby) (hsh) (by exact hb) (by first | exact hn | (simp (disch := decide) only [gF_sF]; first | done | exact hn | omega | (simp; first | done | omega))) (by first | exact ha | rfl | (simp (disch := decide) only [gF_sF]; first | done | omega | (simp; first | done | omega))) (by first | exact hf | (simp (disch := decide) only [gF_sF]; first | done | exact hf | omega | (simp; first | done | omega))) (by first | assumption | exact hnn | omega) (by first | assumption | exact haa | omega) ?_
            refine pw_callS (av := [vI (sgn b n p)]) (st := []) (ls0 := [some (vI (sgn b n p))]) r_4_readRank_38 rfl rfl rfl (Nat.le_refl _) ?_
            refine sp_X4_rankOf  ?_
            refine pw_iload r_4_readRank_41 rfl ?_
            refine pw_icmp_ne r_4_readRank_42 (fun h42 => ?_) (fun h42 => ?_)
            · skip
              refine pw_iload r_4_readRank_82 rfl ?_
              refine pw_iret r_4_readRank_83 rfl (Nat.le_refl _) ⟨rfl, ?_⟩
              refine h2 p s ?_ (by omega) (by omega)
              rcases hK with z | z
              · exact z.2.2
              · have z1 := z.1
                first | exact z.2 _ (EvX_end h42) | exact z.2 _ (EvX_end (by rw [sgn_out (by omega), rk_neg]; omega)) | (exfalso; omega)
            · skip
              have hpn : p < n := sgn_lt (b := b) (fun z => by rw [z, rk_neg] at h42; omega)
              refine pw_aload r_4_readRank_45 rfl ?_
              refine pw_callV (av := []) (st := []) (ls0 := [some (vR 4 (0))]) r_4_readRank_46 rfl rfl rfl (Nat.le_refl _) ?_
              refine sgO (cb := cb) (rb := rb) (n := n) (b := b) (a := p) (by exact hby) (hsh) (by exact hb) (by first | exact hn | (simp (disch := decide) only [gF_sF]; first | done | exact hn | omega | (simp; first | done | omega))) (by first | exact ha | rfl | (simp (disch := decide) only [gF_sF]; first | done | omega | (simp; first | done | omega))) (by first | exact hf | (simp (disch := decide) only [gF_sF]; first | done | exact hf | omega | (simp; first | done | omega))) (by first | assumption | exact hnn | omega) (by first | assumption | exact haa | omega) ?_
              refine pw_istore (ls' := [some (vR 4 (0)), some (vI (r)), some (vI (o)), some (vI (s e)), some (vI (1)), some (vI (i)), some (vI (sgn b n p))]) r_4_readRank_49 rfl rfl ?_
              refine pw_aload r_4_readRank_51 rfl ?_
              refine pw_dup r_4_readRank_52 rfl ?_
              refine pw_getIv (v := p) r_4_readRank_53 fs_4_5 (by decide) (by first | rfl | simp [gF_sF, gF_sA, gF_uA, gF_sD, gA_sF, gA_sA, gA_uA, gA_sD, gD_sF, gD_sA, gD_uA, gD_sD]) ?_
              refine pw_const r_4_readRank_56 ?_
              refine pw_iadd r_4_readRank_57 (by omega) ?_
              refine pw_putI r_4_readRank_58 (by decide +kernel) fs_4_5 (by decide) ?_
              refine pw_iload r_4_readRank_61 rfl ?_
              refine pw_iload r_4_readRank_63 rfl ?_
              refine pw_aload r_4_readRank_64 rfl ?_
              refine pw_iload r_4_readRank_65 rfl ?_
              refine pw_const r_4_readRank_66 ?_
              refine pw_iadd r_4_readRank_67 (by omega) ?_
              refine pw_iload r_4_readRank_68 rfl ?_
              refine pw_callV (av := [vI ((r + 1)), vI (o)]) (st := [vI (s e), vI (sgn b n p)]) (ls0 := [some (vR 4 (0)), some (vI ((r + 1))), some (vI (o))]) r_4_readRank_69 rfl rfl rfl (Nat.le_refl _) ?_
              refine hP2 (d := d) (cb := cb) (rb := rb) (n := n) (b := b) (a := (p + 1)) (o := o) (e := e) (r := (r + 1)) (by omega) (by exact hby) (hsh) (by exact hb) (by first | exact hn | (simp (disch := decide) only [gF_sF]; first | done | exact hn | omega | (simp; first | done | omega))) (by first | exact ha | rfl | (simp (disch := decide) only [gF_sF]; first | done | omega | (simp; first | done | omega))) (by first | exact hf | (simp (disch := decide) only [gF_sF]; first | done | exact hf | omega | (simp; first | done | omega))) (by first | assumption | exact hnn | omega) (by first | assumption | exact haa | omega) (by exact hve) (by first | assumption | exact hr | omega) (by first | assumption | exact ho | omega) ?_ ?_
              · skip
                intro f1 v1 q1 q2 q3
                have hF : EvX b n r o a none (.inl f1) := by
                  rcases hK with z | z
                  · exfalso
                    have z1 := z.1
                    have z2 := z.2.1
                    omega
                  · exact z.2 _ (EvX_moreF h42 q1)
                refine pw_callS (av := [vI (sgn b n p), vI (s e), vI (v1)]) (st := []) (ls0 := [some (vI (sgn b n p)), some (vI (s e)), some (vI (v1))]) r_4_readRank_72 rfl rfl rfl (Nat.le_refl _) ?_
                refine sp_X4_work (by omega) ?_
                refine pw_istore (ls' := [some (vR 4 (0)), some (vI (r)), some (vI (o)), some (vI (wk (sgn b n p) (s e) v1)), some (vI (1)), some (vI (i)), some (vI (sgn b n p))]) r_4_readRank_75 rfl rfl ?_
                refine pw_iinc (b := 0) (ls' := [some (vR 4 (0)), some (vI (r)), some (vI (o)), some (vI (wk (sgn b n p) (s e) v1)), some (vI (1)), some (vI ((i + 1))), some (vI (sgn b n p))]) r_4_readRank_76 rfl rfl (by omega) rfl ?_
                refine pw_goto r_4_readRank_79 ?_
                refine pw_iload r_4_readRank_27 rfl ?_
                refine pw_iload r_4_readRank_29 rfl ?_
                refine pw_icmp_ge r_4_readRank_31 (fun h31 => ?_) (fun h31 => ?_)
                · skip
                  refine pw_iload r_4_readRank_82 rfl ?_
                  refine pw_eqG (G' := sF (sF G 4 (0) 5 (f1)) 4 (0) 1 (f1)) (by first | rfl | (rw [uA_self]; done) | (rw [sA_uA]; done) | (rw [sA_eq]; done) | (simp (disch := decide) only [sA_uA, sA_uA_ne, uA_abs, uA_abs2, uA_uA]; done) | (simp (disch := decide) only [sA_eq, sA_uA, sA_uA_ne, uA_abs, uA_abs2, uA_uA]; done) | (refine PH_ext (fun _ _ _ => ?_) (fun _ _ _ => ?_) (fun _ _ _ => ?_) <;> simp only [gF_sF, gF_sA, gF_uA, gF_sD, gA_sF, gA_sA, gA_uA, gA_sD, gD_sF, gD_sA, gD_uA, gD_sD] <;> (repeat' split) <;> first | rfl | (exfalso; omega) | simp_all)) ?_
                  refine pw_iret r_4_readRank_83 rfl (Nat.le_refl _) ⟨rfl, ?_⟩
                  exact h1 f1 _ hF (by omega) (by omega)
                · skip
                  refine pw_aload r_4_readRank_34 rfl ?_
                  refine pw_callV (av := []) (st := []) (ls0 := [some (vR 4 (0))]) r_4_readRank_35 rfl rfl rfl (Nat.le_refl _) ?_
                  refine sgF (by first | (show 0 ≤ f1; omega) | (simp (disch := decide) only [gF_sF]; first | done | omega | (simp; first | done | omega))) ?_
                  refine pw_callS (av := [vI (-1)]) (st := []) (ls0 := [some (vI (-1))]) r_4_readRank_38 rfl rfl rfl (Nat.le_refl _) ?_
                  refine sp_X4_rankOf  ?_
                  refine pw_top (b := -1) (by decide) ?_
                  refine pw_iload r_4_readRank_41 rfl ?_
                  refine pw_icmp_ne r_4_readRank_42 (fun h42 => ?_) (fun h42 => absurd h42 (by omega))
                  refine pw_iload r_4_readRank_82 rfl ?_
                  refine pw_eqG (G' := sF (sF G 4 (0) 5 (f1)) 4 (0) 1 (f1)) (by first | rfl | (rw [uA_self]; done) | (rw [sA_uA]; done) | (rw [sA_eq]; done) | (simp (disch := decide) only [sA_uA, sA_uA_ne, uA_abs, uA_abs2, uA_uA]; done) | (simp (disch := decide) only [sA_eq, sA_uA, sA_uA_ne, uA_abs, uA_abs2, uA_uA]; done) | (refine PH_ext (fun _ _ _ => ?_) (fun _ _ _ => ?_) (fun _ _ _ => ?_) <;> simp only [gF_sF, gF_sA, gF_uA, gF_sD, gA_sF, gA_sA, gA_uA, gA_sD, gD_sF, gD_sA, gD_uA, gD_sD] <;> (repeat' split) <;> first | rfl | (exfalso; omega) | simp_all)) ?_
                  refine pw_iret r_4_readRank_83 rfl (Nat.le_refl _) ⟨rfl, ?_⟩
                  exact h1 f1 _ hF (by omega) (by omega)
              · skip
                intro a1 s1 q1 q2 q3
                refine pw_callS (av := [vI (sgn b n p), vI (s e), vI (s1 e)]) (st := []) (ls0 := [some (vI (sgn b n p)), some (vI (s e)), some (vI (s1 e))]) r_4_readRank_72 rfl rfl rfl (Nat.le_refl _) ?_
                refine sp_X4_work (by omega) ?_
                refine pw_istore (ls' := [some (vR 4 (0)), some (vI (r)), some (vI (o)), some (vI (wk (sgn b n p) (s e) (s1 e))), some (vI (1)), some (vI (i)), some (vI (sgn b n p))]) r_4_readRank_75 rfl rfl ?_
                refine pw_iinc (b := 0) (ls' := [some (vR 4 (0)), some (vI (r)), some (vI (o)), some (vI (wk (sgn b n p) (s e) (s1 e))), some (vI (1)), some (vI ((i + 1))), some (vI (sgn b n p))]) r_4_readRank_76 rfl rfl (by omega) rfl ?_
                refine pw_goto r_4_readRank_79 ?_
                refine pw_weakL (ls' := [some (vR 4 (0)), some (vI (r)), some (vI (o)), some (vI ((fun e0 => wk (sgn b n p) (s e0) (s1 e0)) e)), some (vI (1)), some (vI ((i + 1))), none]) (⟨rfl, ⟨rfl, ⟨rfl, ⟨rfl, ⟨rfl, ⟨rfl, trivial⟩⟩⟩⟩⟩⟩) ?_
                refine pw_eqG (G' := sF G 4 (0) 5 (a1)) (by first | rfl | (rw [uA_self]; done) | (rw [sA_uA]; done) | (rw [sA_eq]; done) | (simp (disch := decide) only [sA_uA, sA_uA_ne, uA_abs, uA_abs2, uA_uA]; done) | (simp (disch := decide) only [sA_eq, sA_uA, sA_uA_ne, uA_abs, uA_abs2, uA_uA]; done) | (refine PH_ext (fun _ _ _ => ?_) (fun _ _ _ => ?_) (fun _ _ _ => ?_) <;> simp only [gF_sF, gF_sA, gF_uA, gF_sD, gA_sF, gA_sA, gA_uA, gA_sD, gD_sF, gD_sA, gD_uA, gD_sD] <;> (repeat' split) <;> first | rfl | (exfalso; omega) | simp_all)) ?_
                refine ih27 ((i + 1)) (a1) ((fun e0 => wk (sgn b n p) (s e0) (s1 e0))) (by first | assumption | omega) (by first | assumption | omega) ?_ (by omega)
                · skip
                  rcases hK with z | z
                  · exfalso
                    have z1 := z.1
                    have z2 := z.2.1
                    omega
                  · by_cases hr2 : r = 2
                    · exact Or.inl ⟨hr2, by omega, z.2 _ (EvX_cmp2 hr2 h42 q1)⟩
                    · exact Or.inr ⟨by omega, fun res hres => z.2 _ (EvX_more h42 hr2 q1 hres)⟩
      exact L27 _ (0) (a1) (s1) (by first | assumption | omega) (by first | assumption | omega) (Or.inr ⟨by omega, fun res hres => EvX_lev (by omega) q1 hres⟩) (Nat.lt_succ_self _)
set_option maxRecDepth 10000 in
theorem sp_X4_readPart_s {l : Launch} {w : Wo} (nR : Nat) (hR2 : ∀ {d : Nat} {G : PH} {P : Option PV → PH → Prop} {cb : Nat} {rb r o n a : Int} {b e : Int → Int}, (13 * (8 - o) + 2 * (5 - r) + 2 < (nR : Int)) → (gD G 4 0 3 = some (cb, rb)) → (shp cb = (1, 160, 1)) → (∀ j, 0 ≤ j → j < n → b j = pAnd (gA G cb rb j) 255) → ((gF G 4 0 4) = n) → ((gF G 4 0 5) = a) → ((gF G 4 0 1) < 0) → (n ≤ 160) → (0 ≤ a ∧ a ≤ n) → (∀ j, 0 ≤ j → j < 9 → (gA G 46 0 (j)) = e j) → (0 ≤ r ∧ r ≤ 4) → (0 ≤ o ∧ o ≤ 8) → (∀ f v, EvX b n r o a none (.inl f) → a ≤ f → f ≤ n → P (some (vI v)) (sF (sF G 4 0 5 f) 4 0 1 f)) → (∀ a1 s1, EvX b n r o a none (.inr (a1, s1)) → a ≤ a1 → a1 ≤ n → P (some (vI (s1 e))) (sF G 4 0 5 a1)) → PW l w M_X4_readRank (d + nR + 3) 0 [some (vR 4 (0)), some (vI (r)), some (vI (o)), none, none, none, none] [] G P) (hO : ∀ {d : Nat} {G : PH} {P : Option PV → PH → Prop} {cb : Nat} {rb o n a : Int} {b e : Int → Int}, (13 * (8 - o) + 2 < (nR : Int)) → (gD G 4 0 3 = some (cb, rb)) → (shp cb = (1, 160, 1)) → (∀ j, 0 ≤ j → j < n → b j = pAnd (gA G cb rb j) 255) → ((gF G 4 0 4) = n) → ((gF G 4 0 5) = a) → ((gF G 4 0 1) < 0) → (n ≤ 160) → (0 ≤ a ∧ a ≤ n) → (∀ j, 0 ≤ j → j < 9 → (gA G 46 0 (j)) = e j) → (0 ≤ o ∧ o ≤ 8) → (∀ f v, EvX b n 5 o a none (.inl f) → a ≤ f → f ≤ n → P (some (vI v)) (sF (sF G 4 0 5 f) 4 0 1 f)) → (∀ a1 s1, EvX b n 5 o a none (.inr (a1, s1)) → a ≤ a1 → a1 ≤ n → P (some (vI (s1 e))) (sF G 4 0 5 a1)) → PW l w M_X4_readOperand (d + nR + 3) 0 [some (vR 4 (0)), some (vI (o)), none, none, none] [] G P) : ∀ {d : Nat} {G : PH} {P : Option PV → PH → Prop} {cb : Nat} {rb r o n a : Int} {b e : Int → Int}, (13 * (8 - o) + 2 * (5 - r) + 3 < ((nR + 1) : Int)) → (gD G 4 0 3 = some (cb, rb)) → (shp cb = (1, 160, 1)) → (∀ j, 0 ≤ j → j < n → b j = pAnd (gA G cb rb j) 255) → ((gF G 4 0 4) = n) → ((gF G 4 0 5) = a) → ((gF G 4 0 1) < 0) → (n ≤ 160) → (0 ≤ a ∧ a ≤ n) → (∀ j, 0 ≤ j → j < 9 → (gA G 46 0 (j)) = e j) → (0 ≤ r ∧ r ≤ 5) → (0 ≤ o ∧ o ≤ 8) → (∀ f v, EvX b n r o a none (.inl f) → a ≤ f → f ≤ n → P (some (vI v)) (sF (sF G 4 0 5 f) 4 0 1 f)) → (∀ a1 s1, EvX b n r o a none (.inr (a1, s1)) → a ≤ a1 → a1 ≤ n → P (some (vI (s1 e))) (sF G 4 0 5 a1)) → PW l w M_X4_readPart (d + (nR + 1) + 3) 0 [some (vR 4 (0)), some (vI (r)), some (vI (o))] [] G P := by
  intro d G P cb rb r o n a b e hM hby hsh hb hn ha hf hnn haa hve hr ho h1 h2
  rw [show d + (nR + 1) + 3 = d + nR + 4 by omega]
  refine pw_iload r_4_readPart_0 rfl ?_
  refine pw_const r_4_readPart_1 ?_
  refine pw_icmp_le r_4_readPart_2 (fun h02 => ?_) (fun h02 => ?_)
  · skip
    refine pw_aload r_4_readPart_13 rfl ?_
    refine pw_iload r_4_readPart_14 rfl ?_
    refine pw_iload r_4_readPart_15 rfl ?_
    refine pw_callV (av := [vI (r), vI (o)]) (st := []) (ls0 := [some (vR 4 (0)), some (vI (r)), some (vI (o)), none, none, none, none]) r_4_readPart_16 rfl rfl rfl (Nat.le_refl _) ?_
    refine hR2 (d := d) (cb := cb) (rb := rb) (n := n) (b := b) (a := a) (o := o) (e := e) (r := r) (by omega) (by exact hby) (hsh) (by exact hb) (by first | exact hn | (simp (disch := decide) only [gF_sF]; first | done | exact hn | omega | (simp; first | done | omega))) (by first | exact ha | rfl | (simp (disch := decide) only [gF_sF]; first | done | omega | (simp; first | done | omega))) (by first | exact hf | (simp (disch := decide) only [gF_sF]; first | done | exact hf | omega | (simp; first | done | omega))) (by first | assumption | exact hnn | omega) (by first | assumption | exact haa | omega) (by exact hve) (by first | assumption | exact hr | omega) (by first | assumption | exact ho | omega) ?_ ?_
    · skip
      intro f1 v1 q1 q2 q3
      refine pw_iret r_4_readPart_19 rfl (Nat.le_refl _) ⟨rfl, ?_⟩
      exact h1 f1 v1 q1 q2 q3
    · skip
      intro a1 s1 q1 q2 q3
      refine pw_iret r_4_readPart_19 rfl (Nat.le_refl _) ⟨rfl, ?_⟩
      exact h2 a1 s1 q1 q2 q3
  · skip
    refine pw_aload r_4_readPart_5 rfl ?_
    refine pw_iload r_4_readPart_6 rfl ?_
    refine pw_callV (av := [vI (o)]) (st := []) (ls0 := [some (vR 4 (0)), some (vI (o)), none, none, none]) r_4_readPart_7 rfl rfl rfl (Nat.le_refl _) ?_
    refine hO (d := d) (cb := cb) (rb := rb) (n := n) (b := b) (a := a) (o := o) (e := e) (by omega) (by exact hby) (hsh) (by exact hb) (by first | exact hn | (simp (disch := decide) only [gF_sF]; first | done | exact hn | omega | (simp; first | done | omega))) (by first | exact ha | rfl | (simp (disch := decide) only [gF_sF]; first | done | omega | (simp; first | done | omega))) (by first | exact hf | (simp (disch := decide) only [gF_sF]; first | done | exact hf | omega | (simp; first | done | omega))) (by first | assumption | exact hnn | omega) (by first | assumption | exact haa | omega) (by exact hve) (by first | assumption | exact ho | omega) ?_ ?_
    · skip
      intro f1 v1 q1 q2 q3
      refine pw_goto r_4_readPart_10 ?_
      refine pw_iret r_4_readPart_19 rfl (Nat.le_refl _) ⟨rfl, ?_⟩
      exact h1 f1 v1 (by rw [show r = 5 by omega]; exact q1) q2 q3
    · skip
      intro a1 s1 q1 q2 q3
      refine pw_goto r_4_readPart_10 ?_
      refine pw_iret r_4_readPart_19 rfl (Nat.le_refl _) ⟨rfl, ?_⟩
      exact h2 a1 s1 (by rw [show r = 5 by omega]; exact q1) q2 q3
set_option maxRecDepth 10000 in
theorem sp_X4_readOperand_s {l : Launch} {w : Wo} (nR : Nat) (hP1 : ∀ {d : Nat} {G : PH} {P : Option PV → PH → Prop} {cb : Nat} {rb c o n a : Int} {b e : Int → Int}, (13 * (8 - o) + 1 < (nR : Int)) → (gD G 4 0 3 = some (cb, rb)) → (shp cb = (1, 160, 1)) → (∀ j, 0 ≤ j → j < n → b j = pAnd (gA G cb rb j) 255) → ((gF G 4 0 4) = n) → ((gF G 4 0 5) = a) → ((gF G 4 0 1) < 0) → (n ≤ 160) → (0 ≤ a ∧ a ≤ n) → (∀ j, 0 ≤ j → j < 9 → (gA G 46 0 (j)) = e j) → (0 ≤ o ∧ o ≤ 8) → ((c = 33 ∨ c = 40) ∧ sgn b n a = c) → (∀ f v, EvX b n 5 o a none (.inl f) → a ≤ f → f ≤ n → P (some (vI v)) (sF (sF G 4 0 5 f) 4 0 1 f)) → (∀ a1 s1, EvX b n 5 o a none (.inr (a1, s1)) → a ≤ a1 → a1 ≤ n → P (some (vI (s1 e))) (sF G 4 0 5 a1)) → PW l w M_X4_readOpen (d + nR + 3) 0 [some (vR 4 (0)), some (vI (c)), some (vI (o)), none] [] G P) : ∀ {d : Nat} {G : PH} {P : Option PV → PH → Prop} {cb : Nat} {rb o n a : Int} {b e : Int → Int}, (13 * (8 - o) + 2 < ((nR + 1) : Int)) → (gD G 4 0 3 = some (cb, rb)) → (shp cb = (1, 160, 1)) → (∀ j, 0 ≤ j → j < n → b j = pAnd (gA G cb rb j) 255) → ((gF G 4 0 4) = n) → ((gF G 4 0 5) = a) → ((gF G 4 0 1) < 0) → (n ≤ 160) → (0 ≤ a ∧ a ≤ n) → (∀ j, 0 ≤ j → j < 9 → (gA G 46 0 (j)) = e j) → (0 ≤ o ∧ o ≤ 8) → (∀ f v, EvX b n 5 o a none (.inl f) → a ≤ f → f ≤ n → P (some (vI v)) (sF (sF G 4 0 5 f) 4 0 1 f)) → (∀ a1 s1, EvX b n 5 o a none (.inr (a1, s1)) → a ≤ a1 → a1 ≤ n → P (some (vI (s1 e))) (sF G 4 0 5 a1)) → PW l w M_X4_readOperand (d + (nR + 1) + 3) 0 [some (vR 4 (0)), some (vI (o)), none, none, none] [] G P := by
  intro d G P cb rb o n a b e hM hby hsh hb hn ha hf hnn haa hve ho h1 h2
  rw [show d + (nR + 1) + 3 = d + nR + 4 by omega]
  have hsg := sgn_in (n := n) (a := a) hb haa.1
  refine pw_aload r_4_readOperand_0 rfl ?_
  refine pw_callV (av := []) (st := []) (ls0 := [some (vR 4 (0))]) r_4_readOperand_1 rfl rfl rfl (Nat.le_refl _) ?_
  refine sgO (cb := cb) (rb := rb) (n := n) (b := b) (a := a) (by exact hby) (hsh) (by exact hb) (by first | exact hn | (simp (disch := decide) only [gF_sF]; first | done | exact hn | omega | (simp; first | done | omega))) (by first | exact ha | rfl | (simp (disch := decide) only [gF_sF]; first | done | omega | (simp; first | done | omega))) (by first | exact hf | (simp (disch := decide) only [gF_sF]; first | done | exact hf | omega | (simp; first | done | omega))) (by first | assumption | exact hnn | omega) (by first | assumption | exact haa | omega) ?_
  refine pw_istore (ls' := [some (vR 4 (0)), some (vI (o)), some (vI (sgn b n a)), none, none]) r_4_readOperand_4 rfl rfl ?_
  refine pw_const r_4_readOperand_5 ?_
  refine pw_istore (ls' := [some (vR 4 (0)), some (vI (o)), some (vI (sgn b n a)), some (vI (0)), none]) r_4_readOperand_6 rfl rfl ?_
  refine pw_const r_4_readOperand_7 ?_
  refine pw_istore (ls' := [some (vR 4 (0)), some (vI (o)), some (vI (sgn b n a)), some (vI (0)), some (vI (0))]) r_4_readOperand_8 rfl rfl ?_
  have L63 : ∀ (i p m : Int), (hi : 0 ≤ i ∧ i ≤ 4) → (hp : p = a + i) → (hpn : p ≤ n) → (hm : m = dgV b n a i) → (hd : ∀ j, 0 ≤ j → j < i → isDg (sgn b n (a + j))) → (hx : i = 4 ∨ ¬ isDg (sgn b n (a + i))) → PW l w M_X4_readOperand (d + nR + 4) 63 [some (vR 4 (0)), some (vI (o)), some (vI (sgn b n a)), some (vI (m)), some (vI (i))] [] (sF G 4 (0) 5 (p)) P := by
    intro i p m hi hp hpn hm hd hx
    refine pw_iload r_4_readOperand_63 rfl ?_
    refine pw_const r_4_readOperand_64 ?_
    refine pw_icmp_lt r_4_readOperand_66 (fun h66 => ?_) (fun h66 => ?_)
    · skip
      have hi0 : i = 0 := by
        rcases Int.lt_or_le 0 i with z | z
        · have h9 := hd 0 (by omega) z
          rw [Int.add_zero] at h9
          unfold isDg at h9
          omega
        · omega
      refine pw_iload r_4_readOperand_77 rfl ?_
      refine pw_const r_4_readOperand_78 ?_
      refine pw_icmp_eq r_4_readOperand_80 (fun h80 => ?_) (fun h80 => ?_)
      · skip
        refine pw_aload r_4_readOperand_89 rfl ?_
        refine pw_iload r_4_readOperand_90 rfl ?_
        refine pw_iload r_4_readOperand_91 rfl ?_
        refine pw_callV (av := [vI (sgn b n a), vI (o)]) (st := []) (ls0 := [some (vR 4 (0)), some (vI (sgn b n a)), some (vI (o)), none]) r_4_readOperand_92 rfl rfl rfl (Nat.le_refl _) ?_
        refine hP1 (d := d) (cb := cb) (rb := rb) (n := n) (b := b) (a := a) (o := o) (e := e) (c := (sgn b n a)) (by omega) (by exact hby) (hsh) (by exact hb) (by first | exact hn | (simp (disch := decide) only [gF_sF]; first | done | exact hn | omega | (simp; first | done | omega))) (by first | exact ha | rfl | (simp (disch := decide) only [gF_sF]; first | done | omega | (simp; first | done | omega))) (by first | exact hf | (simp (disch := decide) only [gF_sF]; first | done | exact hf | omega | (simp; first | done | omega))) (by first | assumption | exact hnn | omega) (by first | assumption | exact haa | omega) (by exact hve) (by first | assumption | exact ho | omega) (⟨by omega, rfl⟩) ?_ ?_
        · skip
          intro f1 v1 q1 q2 q3
          refine pw_eqG (G' := sF (sF G 4 (0) 5 (f1)) 4 (0) 1 (f1)) (by first | rfl | (rw [uA_self]; done) | (rw [sA_uA]; done) | (rw [sA_eq]; done) | (simp (disch := decide) only [sA_uA, sA_uA_ne, uA_abs, uA_abs2, uA_uA]; done) | (simp (disch := decide) only [sA_eq, sA_uA, sA_uA_ne, uA_abs, uA_abs2, uA_uA]; done) | (refine PH_ext (fun _ _ _ => ?_) (fun _ _ _ => ?_) (fun _ _ _ => ?_) <;> simp only [gF_sF, gF_sA, gF_uA, gF_sD, gA_sF, gA_sA, gA_uA, gA_sD, gD_sF, gD_sA, gD_uA, gD_sD] <;> (repeat' split) <;> first | rfl | (exfalso; omega) | simp_all)) ?_
          refine pw_iret r_4_readOperand_95 rfl (Nat.le_refl _) ⟨rfl, ?_⟩
          exact h1 f1 v1 q1 q2 q3
        · skip
          intro a1 s1 q1 q2 q3
          refine pw_eqG (G' := sF G 4 (0) 5 (a1)) (by first | rfl | (rw [uA_self]; done) | (rw [sA_uA]; done) | (rw [sA_eq]; done) | (simp (disch := decide) only [sA_uA, sA_uA_ne, uA_abs, uA_abs2, uA_uA]; done) | (simp (disch := decide) only [sA_eq, sA_uA, sA_uA_ne, uA_abs, uA_abs2, uA_uA]; done) | (refine PH_ext (fun _ _ _ => ?_) (fun _ _ _ => ?_) (fun _ _ _ => ?_) <;> simp only [gF_sF, gF_sA, gF_uA, gF_sD, gA_sF, gA_sA, gA_uA, gA_sD, gD_sF, gD_sA, gD_uA, gD_sD] <;> (repeat' split) <;> first | rfl | (exfalso; omega) | simp_all)) ?_
          refine pw_iret r_4_readOperand_95 rfl (Nat.le_refl _) ⟨rfl, ?_⟩
          exact h2 a1 s1 q1 q2 q3
      · skip
        refine pw_iload r_4_readOperand_83 rfl ?_
        refine pw_const r_4_readOperand_84 ?_
        refine pw_icmp_ne r_4_readOperand_86 (fun h86 => ?_) (fun h86 => ?_)
        · skip
          refine pw_iload r_4_readOperand_96 rfl ?_
          refine pw_const r_4_readOperand_97 ?_
          refine pw_icmp_ne r_4_readOperand_98 (fun h98 => ?_) (fun h98 => ?_)
          · skip
            refine pw_ldcS r_4_readOperand_105 ?_
            refine pw_iload r_4_readOperand_107 rfl ?_
            refine pw_i2c r_4_readOperand_108 ?_
            refine pw_top (b := sgn b n a) (c16_id (by omega) (by omega)) ?_
            refine pw_callT (av := [vI (sgn b n a)]) (st := []) (ls0 := [some (vR 192 (0)), some (vI (sgn b n a))]) r_4_readOperand_109 rfl rfl rfl (Nat.le_refl _) ?_
            refine sp_J_String_indexOf1  ?_
            refine pw_istore (ls' := [some (vR 4 (0)), some (vI (o)), some (vI (sgn b n a)), some (vI (m)), some (vI (nmIx (sgn b n a)))]) r_4_readOperand_112 rfl rfl ?_
            refine pw_iload r_4_readOperand_114 rfl ?_
            refine pw_if_lt r_4_readOperand_116 (fun h116 => ?_) (fun h116 => ?_)
            · skip
              refine pw_aload r_4_readOperand_129 rfl ?_
              refine pw_callV (av := []) (st := []) (ls0 := [some (vR 4 (0))]) r_4_readOperand_130 rfl rfl rfl (Nat.le_refl _) ?_
              refine flO (a := p) (by first | exact ha | rfl | (simp (disch := decide) only [gF_sF]; first | done | omega | (simp; first | done | omega))) (by first | exact hf | (simp (disch := decide) only [gF_sF]; first | done | exact hf | omega | (simp; first | done | omega))) ?_
              refine pw_const r_4_readOperand_133 ?_
              refine pw_iret r_4_readOperand_134 rfl (Nat.le_refl _) ⟨rfl, ?_⟩
              exact h1 p 0 (by rw [show p = a by omega]; exact EvX_bad (by unfold isDg; omega) (by omega) (by omega) (by first | omega | (rw [show sgn b n a = -1 by omega]; decide))) (by omega) (by omega)
            · skip
              refine pw_iload r_4_readOperand_119 rfl ?_
              refine pw_aload r_4_readOperand_121 rfl ?_
              refine pw_getR r_4_readOperand_122 fs_4_0 (by decide) ?_
              refine pw_alen r_4_readOperand_125 sh46 (by decide) ?_
              refine pw_top (b := 9) rfl ?_
              refine pw_icmp_lt r_4_readOperand_126 (fun h126 => ?_) (fun h126 => absurd h126 (by have := nmIx_lt (sgn b n a); omega))
              refine pw_aload r_4_readOperand_135 rfl ?_
              refine pw_dup r_4_readOperand_136 rfl ?_
              refine pw_getIv (v := p) r_4_readOperand_137 fs_4_5 (by decide) (by first | rfl | simp [gF_sF, gF_sA, gF_uA, gF_sD, gA_sF, gA_sA, gA_uA, gA_sD, gD_sF, gD_sA, gD_uA, gD_sD]) ?_
              refine pw_const r_4_readOperand_140 ?_
              refine pw_iadd r_4_readOperand_141 (by omega) ?_
              refine pw_putI r_4_readOperand_142 (by decide +kernel) fs_4_5 (by decide) ?_
              refine pw_aload r_4_readOperand_145 rfl ?_
              refine pw_getR r_4_readOperand_146 fs_4_0 (by decide) ?_
              refine pw_iload r_4_readOperand_149 rfl ?_
              refine pw_ialdv (v := gA G 46 (0) (nmIx (sgn b n a))) r_4_readOperand_151 sh46 (by omega) (by omega) (by first | rfl | simp [gF_sF, gF_sA, gF_uA, gF_sD, gA_sF, gA_sA, gA_uA, gA_sD, gD_sF, gD_sA, gD_uA, gD_sD]) ?_
              refine pw_eqG (G' := sF G 4 (0) 5 ((p + 1))) (by first | rfl | (rw [uA_self]; done) | (rw [sA_uA]; done) | (rw [sA_eq]; done) | (simp (disch := decide) only [sA_uA, sA_uA_ne, uA_abs, uA_abs2, uA_uA]; done) | (simp (disch := decide) only [sA_eq, sA_uA, sA_uA_ne, uA_abs, uA_abs2, uA_uA]; done) | (refine PH_ext (fun _ _ _ => ?_) (fun _ _ _ => ?_) (fun _ _ _ => ?_) <;> simp only [gF_sF, gF_sA, gF_uA, gF_sD, gA_sF, gA_sA, gA_uA, gA_sD, gD_sF, gD_sA, gD_uA, gD_sD] <;> (repeat' split) <;> first | rfl | (exfalso; omega) | simp_all)) ?_
              refine pw_iret r_4_readOperand_152 rfl (Nat.le_refl _) ⟨rfl, ?_⟩
              have hal : a < n := sgn_lt (b := b) (by omega)
              exact pe (h2 (p + 1) (fun e => e (nmIx (sgn b n a))) (by rw [show p = a by omega]; exact EvX_name (by omega)) (by omega) (by omega)) (hve _ (by omega) (nmIx_lt _))
          · skip
            refine pw_const r_4_readOperand_101 ?_
            refine pw_goto r_4_readOperand_102 ?_
            refine pw_istore (ls' := [some (vR 4 (0)), some (vI (o)), some (vI (sgn b n a)), some (vI (m)), some (vI ((-1)))]) r_4_readOperand_112 rfl rfl ?_
            refine pw_iload r_4_readOperand_114 rfl ?_
            refine pw_if_lt r_4_readOperand_116 (fun h116 => ?_) (fun h116 => absurd h116 (by decide))
            refine pw_aload r_4_readOperand_129 rfl ?_
            refine pw_callV (av := []) (st := []) (ls0 := [some (vR 4 (0))]) r_4_readOperand_130 rfl rfl rfl (Nat.le_refl _) ?_
            refine flO (a := p) (by first | exact ha | rfl | (simp (disch := decide) only [gF_sF]; first | done | omega | (simp; first | done | omega))) (by first | exact hf | (simp (disch := decide) only [gF_sF]; first | done | exact hf | omega | (simp; first | done | omega))) ?_
            refine pw_const r_4_readOperand_133 ?_
            refine pw_iret r_4_readOperand_134 rfl (Nat.le_refl _) ⟨rfl, ?_⟩
            exact h1 p 0 (by rw [show p = a by omega]; exact EvX_bad (by unfold isDg; omega) (by omega) (by omega) (by first | omega | (rw [show sgn b n a = -1 by omega]; decide))) (by omega) (by omega)
        · skip
          refine pw_aload r_4_readOperand_89 rfl ?_
          refine pw_iload r_4_readOperand_90 rfl ?_
          refine pw_iload r_4_readOperand_91 rfl ?_
          refine pw_callV (av := [vI (sgn b n a), vI (o)]) (st := []) (ls0 := [some (vR 4 (0)), some (vI (sgn b n a)), some (vI (o)), none]) r_4_readOperand_92 rfl rfl rfl (Nat.le_refl _) ?_
          refine hP1 (d := d) (cb := cb) (rb := rb) (n := n) (b := b) (a := a) (o := o) (e := e) (c := (sgn b n a)) (by omega) (by exact hby) (hsh) (by exact hb) (by first | exact hn | (simp (disch := decide) only [gF_sF]; first | done | exact hn | omega | (simp; first | done | omega))) (by first | exact ha | rfl | (simp (disch := decide) only [gF_sF]; first | done | omega | (simp; first | done | omega))) (by first | exact hf | (simp (disch := decide) only [gF_sF]; first | done | exact hf | omega | (simp; first | done | omega))) (by first | assumption | exact hnn | omega) (by first | assumption | exact haa | omega) (by exact hve) (by first | assumption | exact ho | omega) (⟨by omega, rfl⟩) ?_ ?_
          · skip
            intro f1 v1 q1 q2 q3
            refine pw_eqG (G' := sF (sF G 4 (0) 5 (f1)) 4 (0) 1 (f1)) (by first | rfl | (rw [uA_self]; done) | (rw [sA_uA]; done) | (rw [sA_eq]; done) | (simp (disch := decide) only [sA_uA, sA_uA_ne, uA_abs, uA_abs2, uA_uA]; done) | (simp (disch := decide) only [sA_eq, sA_uA, sA_uA_ne, uA_abs, uA_abs2, uA_uA]; done) | (refine PH_ext (fun _ _ _ => ?_) (fun _ _ _ => ?_) (fun _ _ _ => ?_) <;> simp only [gF_sF, gF_sA, gF_uA, gF_sD, gA_sF, gA_sA, gA_uA, gA_sD, gD_sF, gD_sA, gD_uA, gD_sD] <;> (repeat' split) <;> first | rfl | (exfalso; omega) | simp_all)) ?_
            refine pw_iret r_4_readOperand_95 rfl (Nat.le_refl _) ⟨rfl, ?_⟩
            exact h1 f1 v1 q1 q2 q3
          · skip
            intro a1 s1 q1 q2 q3
            refine pw_eqG (G' := sF G 4 (0) 5 (a1)) (by first | rfl | (rw [uA_self]; done) | (rw [sA_uA]; done) | (rw [sA_eq]; done) | (simp (disch := decide) only [sA_uA, sA_uA_ne, uA_abs, uA_abs2, uA_uA]; done) | (simp (disch := decide) only [sA_eq, sA_uA, sA_uA_ne, uA_abs, uA_abs2, uA_uA]; done) | (refine PH_ext (fun _ _ _ => ?_) (fun _ _ _ => ?_) (fun _ _ _ => ?_) <;> simp only [gF_sF, gF_sA, gF_uA, gF_sD, gA_sF, gA_sA, gA_uA, gA_sD, gD_sF, gD_sA, gD_uA, gD_sD] <;> (repeat' split) <;> first | rfl | (exfalso; omega) | simp_all)) ?_
            refine pw_iret r_4_readOperand_95 rfl (Nat.le_refl _) ⟨rfl, ?_⟩
            exact h2 a1 s1 q1 q2 q3
    · skip
      refine pw_iload r_4_readOperand_69 rfl ?_
      refine pw_const r_4_readOperand_70 ?_
      refine pw_icmp_gt r_4_readOperand_72 (fun h72 => ?_) (fun h72 => ?_)
      · skip
        have hi0 : i = 0 := by
          rcases Int.lt_or_le 0 i with z | z
          · have h9 := hd 0 (by omega) z
            rw [Int.add_zero] at h9
            unfold isDg at h9
            omega
          · omega
        refine pw_iload r_4_readOperand_77 rfl ?_
        refine pw_const r_4_readOperand_78 ?_
        refine pw_icmp_eq r_4_readOperand_80 (fun h80 => ?_) (fun h80 => ?_)
        · skip
          refine pw_aload r_4_readOperand_89 rfl ?_
          refine pw_iload r_4_readOperand_90 rfl ?_
          refine pw_iload r_4_readOperand_91 rfl ?_
          refine pw_callV (av := [vI (sgn b n a), vI (o)]) (st := []) (ls0 := [some (vR 4 (0)), some (vI (sgn b n a)), some (vI (o)), none]) r_4_readOperand_92 rfl rfl rfl (Nat.le_refl _) ?_
          refine hP1 (d := d) (cb := cb) (rb := rb) (n := n) (b := b) (a := a) (o := o) (e := e) (c := (sgn b n a)) (by omega) (by exact hby) (hsh) (by exact hb) (by first | exact hn | (simp (disch := decide) only [gF_sF]; first | done | exact hn | omega | (simp; first | done | omega))) (by first | exact ha | rfl | (simp (disch := decide) only [gF_sF]; first | done | omega | (simp; first | done | omega))) (by first | exact hf | (simp (disch := decide) only [gF_sF]; first | done | exact hf | omega | (simp; first | done | omega))) (by first | assumption | exact hnn | omega) (by first | assumption | exact haa | omega) (by exact hve) (by first | assumption | exact ho | omega) (⟨by omega, rfl⟩) ?_ ?_
          · skip
            intro f1 v1 q1 q2 q3
            refine pw_eqG (G' := sF (sF G 4 (0) 5 (f1)) 4 (0) 1 (f1)) (by first | rfl | (rw [uA_self]; done) | (rw [sA_uA]; done) | (rw [sA_eq]; done) | (simp (disch := decide) only [sA_uA, sA_uA_ne, uA_abs, uA_abs2, uA_uA]; done) | (simp (disch := decide) only [sA_eq, sA_uA, sA_uA_ne, uA_abs, uA_abs2, uA_uA]; done) | (refine PH_ext (fun _ _ _ => ?_) (fun _ _ _ => ?_) (fun _ _ _ => ?_) <;> simp only [gF_sF, gF_sA, gF_uA, gF_sD, gA_sF, gA_sA, gA_uA, gA_sD, gD_sF, gD_sA, gD_uA, gD_sD] <;> (repeat' split) <;> first | rfl | (exfalso; omega) | simp_all)) ?_
            refine pw_iret r_4_readOperand_95 rfl (Nat.le_refl _) ⟨rfl, ?_⟩
            exact h1 f1 v1 q1 q2 q3
          · skip
            intro a1 s1 q1 q2 q3
            refine pw_eqG (G' := sF G 4 (0) 5 (a1)) (by first | rfl | (rw [uA_self]; done) | (rw [sA_uA]; done) | (rw [sA_eq]; done) | (simp (disch := decide) only [sA_uA, sA_uA_ne, uA_abs, uA_abs2, uA_uA]; done) | (simp (disch := decide) only [sA_eq, sA_uA, sA_uA_ne, uA_abs, uA_abs2, uA_uA]; done) | (refine PH_ext (fun _ _ _ => ?_) (fun _ _ _ => ?_) (fun _ _ _ => ?_) <;> simp only [gF_sF, gF_sA, gF_uA, gF_sD, gA_sF, gA_sA, gA_uA, gA_sD, gD_sF, gD_sA, gD_uA, gD_sD] <;> (repeat' split) <;> first | rfl | (exfalso; omega) | simp_all)) ?_
            refine pw_iret r_4_readOperand_95 rfl (Nat.le_refl _) ⟨rfl, ?_⟩
            exact h2 a1 s1 q1 q2 q3
        · skip
          refine pw_iload r_4_readOperand_83 rfl ?_
          refine pw_const r_4_readOperand_84 ?_
          refine pw_icmp_ne r_4_readOperand_86 (fun h86 => ?_) (fun h86 => ?_)
          · skip
            refine pw_iload r_4_readOperand_96 rfl ?_
            refine pw_const r_4_readOperand_97 ?_
            refine pw_icmp_ne r_4_readOperand_98 (fun h98 => ?_) (fun h98 => ?_)
            · skip
              refine pw_ldcS r_4_readOperand_105 ?_
              refine pw_iload r_4_readOperand_107 rfl ?_
              refine pw_i2c r_4_readOperand_108 ?_
              refine pw_top (b := sgn b n a) (c16_id (by omega) (by omega)) ?_
              refine pw_callT (av := [vI (sgn b n a)]) (st := []) (ls0 := [some (vR 192 (0)), some (vI (sgn b n a))]) r_4_readOperand_109 rfl rfl rfl (Nat.le_refl _) ?_
              refine sp_J_String_indexOf1  ?_
              refine pw_istore (ls' := [some (vR 4 (0)), some (vI (o)), some (vI (sgn b n a)), some (vI (m)), some (vI (nmIx (sgn b n a)))]) r_4_readOperand_112 rfl rfl ?_
              refine pw_iload r_4_readOperand_114 rfl ?_
              refine pw_if_lt r_4_readOperand_116 (fun h116 => ?_) (fun h116 => ?_)
              · skip
                refine pw_aload r_4_readOperand_129 rfl ?_
                refine pw_callV (av := []) (st := []) (ls0 := [some (vR 4 (0))]) r_4_readOperand_130 rfl rfl rfl (Nat.le_refl _) ?_
                refine flO (a := p) (by first | exact ha | rfl | (simp (disch := decide) only [gF_sF]; first | done | omega | (simp; first | done | omega))) (by first | exact hf | (simp (disch := decide) only [gF_sF]; first | done | exact hf | omega | (simp; first | done | omega))) ?_
                refine pw_const r_4_readOperand_133 ?_
                refine pw_iret r_4_readOperand_134 rfl (Nat.le_refl _) ⟨rfl, ?_⟩
                exact h1 p 0 (by rw [show p = a by omega]; exact EvX_bad (by unfold isDg; omega) (by omega) (by omega) (by first | omega | (rw [show sgn b n a = -1 by omega]; decide))) (by omega) (by omega)
              · skip
                refine pw_iload r_4_readOperand_119 rfl ?_
                refine pw_aload r_4_readOperand_121 rfl ?_
                refine pw_getR r_4_readOperand_122 fs_4_0 (by decide) ?_
                refine pw_alen r_4_readOperand_125 sh46 (by decide) ?_
                refine pw_top (b := 9) rfl ?_
                refine pw_icmp_lt r_4_readOperand_126 (fun h126 => ?_) (fun h126 => absurd h126 (by have := nmIx_lt (sgn b n a); omega))
                refine pw_aload r_4_readOperand_135 rfl ?_
                refine pw_dup r_4_readOperand_136 rfl ?_
                refine pw_getIv (v := p) r_4_readOperand_137 fs_4_5 (by decide) (by first | rfl | simp [gF_sF, gF_sA, gF_uA, gF_sD, gA_sF, gA_sA, gA_uA, gA_sD, gD_sF, gD_sA, gD_uA, gD_sD]) ?_
                refine pw_const r_4_readOperand_140 ?_
                refine pw_iadd r_4_readOperand_141 (by omega) ?_
                refine pw_putI r_4_readOperand_142 (by decide +kernel) fs_4_5 (by decide) ?_
                refine pw_aload r_4_readOperand_145 rfl ?_
                refine pw_getR r_4_readOperand_146 fs_4_0 (by decide) ?_
                refine pw_iload r_4_readOperand_149 rfl ?_
                refine pw_ialdv (v := gA G 46 (0) (nmIx (sgn b n a))) r_4_readOperand_151 sh46 (by omega) (by omega) (by first | rfl | simp [gF_sF, gF_sA, gF_uA, gF_sD, gA_sF, gA_sA, gA_uA, gA_sD, gD_sF, gD_sA, gD_uA, gD_sD]) ?_
                refine pw_eqG (G' := sF G 4 (0) 5 ((p + 1))) (by first | rfl | (rw [uA_self]; done) | (rw [sA_uA]; done) | (rw [sA_eq]; done) | (simp (disch := decide) only [sA_uA, sA_uA_ne, uA_abs, uA_abs2, uA_uA]; done) | (simp (disch := decide) only [sA_eq, sA_uA, sA_uA_ne, uA_abs, uA_abs2, uA_uA]; done) | (refine PH_ext (fun _ _ _ => ?_) (fun _ _ _ => ?_) (fun _ _ _ => ?_) <;> simp only [gF_sF, gF_sA, gF_uA, gF_sD, gA_sF, gA_sA, gA_uA, gA_sD, gD_sF, gD_sA, gD_uA, gD_sD] <;> (repeat' split) <;> first | rfl | (exfalso; omega) | simp_all)) ?_
                refine pw_iret r_4_readOperand_152 rfl (Nat.le_refl _) ⟨rfl, ?_⟩
                have hal : a < n := sgn_lt (b := b) (by omega)
                exact pe (h2 (p + 1) (fun e => e (nmIx (sgn b n a))) (by rw [show p = a by omega]; exact EvX_name (by omega)) (by omega) (by omega)) (hve _ (by omega) (nmIx_lt _))
            · skip
              refine pw_const r_4_readOperand_101 ?_
              refine pw_goto r_4_readOperand_102 ?_
              refine pw_istore (ls' := [some (vR 4 (0)), some (vI (o)), some (vI (sgn b n a)), some (vI (m)), some (vI ((-1)))]) r_4_readOperand_112 rfl rfl ?_
              refine pw_iload r_4_readOperand_114 rfl ?_
              refine pw_if_lt r_4_readOperand_116 (fun h116 => ?_) (fun h116 => absurd h116 (by decide))
              refine pw_aload r_4_readOperand_129 rfl ?_
              refine pw_callV (av := []) (st := []) (ls0 := [some (vR 4 (0))]) r_4_readOperand_130 rfl rfl rfl (Nat.le_refl _) ?_
              refine flO (a := p) (by first | exact ha | rfl | (simp (disch := decide) only [gF_sF]; first | done | omega | (simp; first | done | omega))) (by first | exact hf | (simp (disch := decide) only [gF_sF]; first | done | exact hf | omega | (simp; first | done | omega))) ?_
              refine pw_const r_4_readOperand_133 ?_
              refine pw_iret r_4_readOperand_134 rfl (Nat.le_refl _) ⟨rfl, ?_⟩
              exact h1 p 0 (by rw [show p = a by omega]; exact EvX_bad (by unfold isDg; omega) (by omega) (by omega) (by first | omega | (rw [show sgn b n a = -1 by omega]; decide))) (by omega) (by omega)
          · skip
            refine pw_aload r_4_readOperand_89 rfl ?_
            refine pw_iload r_4_readOperand_90 rfl ?_
            refine pw_iload r_4_readOperand_91 rfl ?_
            refine pw_callV (av := [vI (sgn b n a), vI (o)]) (st := []) (ls0 := [some (vR 4 (0)), some (vI (sgn b n a)), some (vI (o)), none]) r_4_readOperand_92 rfl rfl rfl (Nat.le_refl _) ?_
            refine hP1 (d := d) (cb := cb) (rb := rb) (n := n) (b := b) (a := a) (o := o) (e := e) (c := (sgn b n a)) (by omega) (by exact hby) (hsh) (by exact hb) (by first | exact hn | (simp (disch := decide) only [gF_sF]; first | done | exact hn | omega | (simp; first | done | omega))) (by first | exact ha | rfl | (simp (disch := decide) only [gF_sF]; first | done | omega | (simp; first | done | omega))) (by first | exact hf | (simp (disch := decide) only [gF_sF]; first | done | exact hf | omega | (simp; first | done | omega))) (by first | assumption | exact hnn | omega) (by first | assumption | exact haa | omega) (by exact hve) (by first | assumption | exact ho | omega) (⟨by omega, rfl⟩) ?_ ?_
            · skip
              intro f1 v1 q1 q2 q3
              refine pw_eqG (G' := sF (sF G 4 (0) 5 (f1)) 4 (0) 1 (f1)) (by first | rfl | (rw [uA_self]; done) | (rw [sA_uA]; done) | (rw [sA_eq]; done) | (simp (disch := decide) only [sA_uA, sA_uA_ne, uA_abs, uA_abs2, uA_uA]; done) | (simp (disch := decide) only [sA_eq, sA_uA, sA_uA_ne, uA_abs, uA_abs2, uA_uA]; done) | (refine PH_ext (fun _ _ _ => ?_) (fun _ _ _ => ?_) (fun _ _ _ => ?_) <;> simp only [gF_sF, gF_sA, gF_uA, gF_sD, gA_sF, gA_sA, gA_uA, gA_sD, gD_sF, gD_sA, gD_uA, gD_sD] <;> (repeat' split) <;> first | rfl | (exfalso; omega) | simp_all)) ?_
              refine pw_iret r_4_readOperand_95 rfl (Nat.le_refl _) ⟨rfl, ?_⟩
              exact h1 f1 v1 q1 q2 q3
            · skip
              intro a1 s1 q1 q2 q3
              refine pw_eqG (G' := sF G 4 (0) 5 (a1)) (by first | rfl | (rw [uA_self]; done) | (rw [sA_uA]; done) | (rw [sA_eq]; done) | (simp (disch := decide) only [sA_uA, sA_uA_ne, uA_abs, uA_abs2, uA_uA]; done) | (simp (disch := decide) only [sA_eq, sA_uA, sA_uA_ne, uA_abs, uA_abs2, uA_uA]; done) | (refine PH_ext (fun _ _ _ => ?_) (fun _ _ _ => ?_) (fun _ _ _ => ?_) <;> simp only [gF_sF, gF_sA, gF_uA, gF_sD, gA_sF, gA_sA, gA_uA, gA_sD, gD_sF, gD_sA, gD_uA, gD_sD] <;> (repeat' split) <;> first | rfl | (exfalso; omega) | simp_all)) ?_
              refine pw_iret r_4_readOperand_95 rfl (Nat.le_refl _) ⟨rfl, ?_⟩
              exact h2 a1 s1 q1 q2 q3
      · skip
        refine pw_iload r_4_readOperand_75 rfl ?_
        refine pw_iret r_4_readOperand_76 rfl (Nat.le_refl _) ⟨rfl, ?_⟩
        exact pe (h2 p (fun _ => dgV b n a i) (by rw [hp]; exact EvX_dig (by unfold isDg; omega) ⟨hi.1, hi.2, hd, hx⟩) (by omega) (by omega)) hm
  have L10 : ∀ (nF : Nat) (i p m : Int), (hi : 0 ≤ i ∧ i ≤ 4) → (hp : p = a + i) → (hpn : p ≤ n) → (hm : m = dgV b n a i) → (hbd : (i ≤ 0 → m ≤ 0) ∧ (i ≤ 1 → m ≤ 9) ∧ (i ≤ 2 → m ≤ 99) ∧ (i ≤ 3 → m ≤ 999) ∧ m ≤ 9999 ∧ 0 ≤ m) → (hd : ∀ j, 0 ≤ j → j < i → isDg (sgn b n (a + j))) → (4 - i).toNat < nF → PW l w M_X4_readOperand (d + nR + 4) 10 [some (vR 4 (0)), some (vI (o)), some (vI (sgn b n a)), some (vI (m)), some (vI (i))] [] (sF G 4 (0) 5 (p)) P := by
    intro nF
    induction nF with
    | zero => intro _ _ _ _ _ _ _ _ _ hM; exact absurd hM (Nat.not_lt_zero _)
    | succ nF ih10 =>
      intro i p m hi hp hpn hm hbd hd hM10
      refine pw_iload r_4_readOperand_10 rfl ?_
      refine pw_const r_4_readOperand_12 ?_
      refine pw_icmp_ge r_4_readOperand_13 (fun h13 => ?_) (fun h13 => ?_)
      · skip
        exact L63 (i) (p) (m) (by first | assumption | omega) (by first | assumption | omega) (by first | assumption | omega) (by first | assumption | omega) (by first | assumption | omega) (by first | (left; omega) | (right; rw [← hp]; unfold isDg; omega)) 
      · skip
        refine pw_aload r_4_readOperand_16 rfl ?_
        refine pw_callV (av := []) (st := []) (ls0 := [some (vR 4 (0))]) r_4_readOperand_17 rfl rfl rfl (Nat.le_refl _) ?_
        refine sgO (cb := cb) (rb := rb) (n := n) (b := b) (a := p) (by exact hby) (hsh) (by exact hb) (by first | exact hn | (simp (disch := decide) only [gF_sF]; first | done | exact hn | omega | (simp; first | done | omega))) (by first | exact ha | rfl | (simp (disch := decide) only [gF_sF]; first | done | omega | (simp; first | done | omega))) (by first | exact hf | (simp (disch := decide) only [gF_sF]; first | done | exact hf | omega | (simp; first | done | omega))) (by first | assumption | exact hnn | omega) (by first | assumption | exact haa | omega) ?_
        refine pw_const r_4_readOperand_20 ?_
        refine pw_icmp_lt r_4_readOperand_22 (fun h22 => ?_) (fun h22 => ?_)
        · skip
          exact L63 (i) (p) (m) (by first | assumption | omega) (by first | assumption | omega) (by first | assumption | omega) (by first | assumption | omega) (by first | assumption | omega) (by first | (left; omega) | (right; rw [← hp]; unfold isDg; omega)) 
        · skip
          refine pw_aload r_4_readOperand_25 rfl ?_
          refine pw_callV (av := []) (st := []) (ls0 := [some (vR 4 (0))]) r_4_readOperand_26 rfl rfl rfl (Nat.le_refl _) ?_
          refine sgO (cb := cb) (rb := rb) (n := n) (b := b) (a := p) (by exact hby) (hsh) (by exact hb) (by first | exact hn | (simp (disch := decide) only [gF_sF]; first | done | exact hn | omega | (simp; first | done | omega))) (by first | exact ha | rfl | (simp (disch := decide) only [gF_sF]; first | done | omega | (simp; first | done | omega))) (by first | exact hf | (simp (disch := decide) only [gF_sF]; first | done | exact hf | omega | (simp; first | done | omega))) (by first | assumption | exact hnn | omega) (by first | assumption | exact haa | omega) ?_
          refine pw_const r_4_readOperand_29 ?_
          refine pw_icmp_gt r_4_readOperand_31 (fun h31 => ?_) (fun h31 => ?_)
          · skip
            exact L63 (i) (p) (m) (by first | assumption | omega) (by first | assumption | omega) (by first | assumption | omega) (by first | assumption | omega) (by first | assumption | omega) (by first | (left; omega) | (right; rw [← hp]; unfold isDg; omega)) 
          · skip
            have hpl : p < n := sgn_lt (b := b) (by omega)
            refine pw_iload r_4_readOperand_34 rfl ?_
            refine pw_const r_4_readOperand_35 ?_
            refine pw_imul r_4_readOperand_37 (by omega) ?_
            refine pw_aload r_4_readOperand_38 rfl ?_
            refine pw_callV (av := []) (st := [vI ((m * 10))]) (ls0 := [some (vR 4 (0))]) r_4_readOperand_39 rfl rfl rfl (Nat.le_refl _) ?_
            refine sgO (cb := cb) (rb := rb) (n := n) (b := b) (a := p) (by exact hby) (hsh) (by exact hb) (by first | exact hn | (simp (disch := decide) only [gF_sF]; first | done | exact hn | omega | (simp; first | done | omega))) (by first | exact ha | rfl | (simp (disch := decide) only [gF_sF]; first | done | omega | (simp; first | done | omega))) (by first | exact hf | (simp (disch := decide) only [gF_sF]; first | done | exact hf | omega | (simp; first | done | omega))) (by first | assumption | exact hnn | omega) (by first | assumption | exact haa | omega) ?_
            refine pw_iadd r_4_readOperand_42 (by omega) ?_
            refine pw_const r_4_readOperand_43 ?_
            refine pw_isub r_4_readOperand_45 (by omega) ?_
            refine pw_istore (ls' := [some (vR 4 (0)), some (vI (o)), some (vI (sgn b n a)), some (vI ((((m * 10) + (sgn b n p)) - 48))), some (vI (i))]) r_4_readOperand_46 rfl rfl ?_
            refine pw_aload r_4_readOperand_47 rfl ?_
            refine pw_dup r_4_readOperand_48 rfl ?_
            refine pw_getIv (v := p) r_4_readOperand_49 fs_4_5 (by decide) (by first | rfl | simp [gF_sF, gF_sA, gF_uA, gF_sD, gA_sF, gA_sA, gA_uA, gA_sD, gD_sF, gD_sA, gD_uA, gD_sD]) ?_
            refine pw_const r_4_readOperand_52 ?_
            refine pw_iadd r_4_readOperand_53 (by omega) ?_
            refine pw_putI r_4_readOperand_54 (by decide +kernel) fs_4_5 (by decide) ?_
            refine pw_iinc (b := 0) (ls' := [some (vR 4 (0)), some (vI (o)), some (vI (sgn b n a)), some (vI ((((m * 10) + (sgn b n p)) - 48))), some (vI ((i + 1)))]) r_4_readOperand_57 rfl rfl (by omega) rfl ?_
            refine pw_goto r_4_readOperand_60 ?_
            refine pw_eqG (G' := sF G 4 (0) 5 ((p + 1))) (by first | rfl | (rw [uA_self]; done) | (rw [sA_uA]; done) | (rw [sA_eq]; done) | (simp (disch := decide) only [sA_uA, sA_uA_ne, uA_abs, uA_abs2, uA_uA]; done) | (simp (disch := decide) only [sA_eq, sA_uA, sA_uA_ne, uA_abs, uA_abs2, uA_uA]; done) | (refine PH_ext (fun _ _ _ => ?_) (fun _ _ _ => ?_) (fun _ _ _ => ?_) <;> simp only [gF_sF, gF_sA, gF_uA, gF_sD, gA_sF, gA_sA, gA_uA, gA_sD, gD_sF, gD_sA, gD_uA, gD_sD] <;> (repeat' split) <;> first | rfl | (exfalso; omega) | simp_all)) ?_
            exact ih10 ((i + 1)) ((p + 1)) ((((m * 10) + (sgn b n p)) - 48)) (by first | assumption | omega) (by first | assumption | omega) (by first | assumption | omega) (by rw [dgV_s b n a hi.1, ← hp, ← hm]) (by first | assumption | omega) (fun j z1 z2 => by rcases (show j < i ∨ j = i by omega) with z | z; exact hd j z1 z; rw [z, ← hp]; unfold isDg; omega) (by omega)
  refine pw_eqG (G' := sF G 4 (0) 5 (a)) ((sF_idv ha).symm) ?_
  exact L10 _ (0) (a) (0) (by first | assumption | omega) (by first | assumption | omega) (by first | assumption | omega) ((dgV_0 b n a).symm) (by first | assumption | omega) (fun j z1 z2 => by omega) (Nat.lt_succ_self _)
set_option maxRecDepth 10000 in
theorem sp_X4_readOpen_s {l : Launch} {w : Wo} (nR : Nat) (hO : ∀ {d : Nat} {G : PH} {P : Option PV → PH → Prop} {cb : Nat} {rb o n a : Int} {b e : Int → Int}, (13 * (8 - o) + 2 < (nR : Int)) → (gD G 4 0 3 = some (cb, rb)) → (shp cb = (1, 160, 1)) → (∀ j, 0 ≤ j → j < n → b j = pAnd (gA G cb rb j) 255) → ((gF G 4 0 4) = n) → ((gF G 4 0 5) = a) → ((gF G 4 0 1) < 0) → (n ≤ 160) → (0 ≤ a ∧ a ≤ n) → (∀ j, 0 ≤ j → j < 9 → (gA G 46 0 (j)) = e j) → (0 ≤ o ∧ o ≤ 8) → (∀ f v, EvX b n 5 o a none (.inl f) → a ≤ f → f ≤ n → P (some (vI v)) (sF (sF G 4 0 5 f) 4 0 1 f)) → (∀ a1 s1, EvX b n 5 o a none (.inr (a1, s1)) → a ≤ a1 → a1 ≤ n → P (some (vI (s1 e))) (sF G 4 0 5 a1)) → PW l w M_X4_readOperand (d + nR + 3) 0 [some (vR 4 (0)), some (vI (o)), none, none, none] [] G P) (hR1 : ∀ {d : Nat} {G : PH} {P : Option PV → PH → Prop} {cb : Nat} {rb r o n a : Int} {b e : Int → Int}, (13 * (8 - o) + 2 * (5 - r) + 2 < (nR : Int)) → (gD G 4 0 3 = some (cb, rb)) → (shp cb = (1, 160, 1)) → (∀ j, 0 ≤ j → j < n → b j = pAnd (gA G cb rb j) 255) → ((gF G 4 0 4) = n) → ((gF G 4 0 5) = a) → ((gF G 4 0 1) < 0) → (n ≤ 160) → (0 ≤ a ∧ a ≤ n) → (∀ j, 0 ≤ j → j < 9 → (gA G 46 0 (j)) = e j) → (0 ≤ r ∧ r ≤ 4) → (0 ≤ o ∧ o ≤ 8) → (∀ f v, EvX b n r o a none (.inl f) → a ≤ f → f ≤ n → P (some (vI v)) (sF (sF G 4 0 5 f) 4 0 1 f)) → (∀ a1 s1, EvX b n r o a none (.inr (a1, s1)) → a ≤ a1 → a1 ≤ n → P (some (vI (s1 e))) (sF G 4 0 5 a1)) → PW l w M_X4_readRank (d + nR + 3) 0 [some (vR 4 (0)), some (vI (r)), some (vI (o)), none, none, none, none] [] G P) : ∀ {d : Nat} {G : PH} {P : Option PV → PH → Prop} {cb : Nat} {rb c o n a : Int} {b e : Int → Int}, (13 * (8 - o) + 1 < ((nR + 1) : Int)) → (gD G 4 0 3 = some (cb, rb)) → (shp cb = (1, 160, 1)) → (∀ j, 0 ≤ j → j < n → b j = pAnd (gA G cb rb j) 255) → ((gF G 4 0 4) = n) → ((gF G 4 0 5) = a) → ((gF G 4 0 1) < 0) → (n ≤ 160) → (0 ≤ a ∧ a ≤ n) → (∀ j, 0 ≤ j → j < 9 → (gA G 46 0 (j)) = e j) → (0 ≤ o ∧ o ≤ 8) → ((c = 33 ∨ c = 40) ∧ sgn b n a = c) → (∀ f v, EvX b n 5 o a none (.inl f) → a ≤ f → f ≤ n → P (some (vI v)) (sF (sF G 4 0 5 f) 4 0 1 f)) → (∀ a1 s1, EvX b n 5 o a none (.inr (a1, s1)) → a ≤ a1 → a1 ≤ n → P (some (vI (s1 e))) (sF G 4 0 5 a1)) → PW l w M_X4_readOpen (d + (nR + 1) + 3) 0 [some (vR 4 (0)), some (vI (c)), some (vI (o)), none] [] G P := by
  intro d G P cb rb c o n a b e hM hby hsh hb hn ha hf hnn haa hve ho hc h1 h2
  rw [show d + (nR + 1) + 3 = d + nR + 4 by omega]
  have hal : a < n := sgn_lt (b := b) (by omega)
  refine pw_iload r_4_readOpen_0 rfl ?_
  refine pw_const r_4_readOpen_1 ?_
  refine pw_icmp_lt r_4_readOpen_3 (fun h03 => ?_) (fun h03 => ?_)
  · skip
    refine pw_aload r_4_readOpen_12 rfl ?_
    refine pw_dup r_4_readOpen_13 rfl ?_
    refine pw_getI r_4_readOpen_14 fs_4_5 (by decide) ?_
    refine pw_const r_4_readOpen_17 ?_
    refine pw_iadd r_4_readOpen_18 (by omega) ?_
    refine pw_putI r_4_readOpen_19 (by decide +kernel) fs_4_5 (by decide) ?_
    refine pw_iload r_4_readOpen_22 rfl ?_
    refine pw_const r_4_readOpen_23 ?_
    refine pw_icmp_ne r_4_readOpen_25 (fun h25 => ?_) (fun h25 => ?_)
    · skip
      have h40 : sgn b n a = 40 := by omega
      refine pw_aload r_4_readOpen_44 rfl ?_
      refine pw_const r_4_readOpen_45 ?_
      refine pw_iload r_4_readOpen_46 rfl ?_
      refine pw_const r_4_readOpen_47 ?_
      refine pw_iadd r_4_readOpen_48 (by omega) ?_
      refine pw_callV (av := [vI (0), vI ((o + 1))]) (st := []) (ls0 := [some (vR 4 (0)), some (vI (0)), some (vI ((o + 1))), none, none, none, none]) r_4_readOpen_49 rfl rfl rfl (Nat.le_refl _) ?_
      refine hR1 (d := d) (cb := cb) (rb := rb) (n := n) (b := b) (a := (a + 1)) (o := (o + 1)) (e := e) (r := 0) (by omega) (by exact hby) (hsh) (by exact hb) (by first | exact hn | (simp (disch := decide) only [gF_sF]; first | done | exact hn | omega | (simp; first | done | omega))) (by first | exact ha | rfl | (simp (disch := decide) only [gF_sF]; first | done | omega | (simp; first | done | omega))) (by first | exact hf | (simp (disch := decide) only [gF_sF]; first | done | exact hf | omega | (simp; first | done | omega))) (by first | assumption | exact hnn | omega) (by first | assumption | exact haa | omega) (by exact hve) (by first | assumption | exact hr | omega) (by first | assumption | exact ho | omega) ?_ ?_
      · skip
        intro f1 v1 q1 q2 q3
        refine pw_istore (ls' := [some (vR 4 (0)), some (vI (c)), some (vI (o)), some (vI (v1))]) r_4_readOpen_52 rfl rfl ?_
        refine pw_aload r_4_readOpen_53 rfl ?_
        refine pw_callV (av := []) (st := []) (ls0 := [some (vR 4 (0))]) r_4_readOpen_54 rfl rfl rfl (Nat.le_refl _) ?_
        refine sgF (by first | (show 0 ≤ f1; omega) | (simp (disch := decide) only [gF_sF]; first | done | omega | (simp; first | done | omega))) ?_
        refine pw_const r_4_readOpen_57 ?_
        refine pw_icmp_ne r_4_readOpen_59 (fun h59 => ?_) (fun h59 => absurd h59 (by decide))
        refine pw_aload r_4_readOpen_75 rfl ?_
        refine pw_callV (av := []) (st := []) (ls0 := [some (vR 4 (0))]) r_4_readOpen_76 rfl rfl rfl (Nat.le_refl _) ?_
        refine flF (by first | (show 0 ≤ f1; omega) | (simp (disch := decide) only [gF_sF]; first | done | omega | (simp; first | done | omega))) ?_
        refine pw_iload r_4_readOpen_79 rfl ?_
        refine pw_eqG (G' := sF (sF G 4 (0) 5 (f1)) 4 (0) 1 (f1)) (by first | rfl | (rw [uA_self]; done) | (rw [sA_uA]; done) | (rw [sA_eq]; done) | (simp (disch := decide) only [sA_uA, sA_uA_ne, uA_abs, uA_abs2, uA_uA]; done) | (simp (disch := decide) only [sA_eq, sA_uA, sA_uA_ne, uA_abs, uA_abs2, uA_uA]; done) | (refine PH_ext (fun _ _ _ => ?_) (fun _ _ _ => ?_) (fun _ _ _ => ?_) <;> simp only [gF_sF, gF_sA, gF_uA, gF_sD, gA_sF, gA_sA, gA_uA, gA_sD, gD_sF, gD_sA, gD_uA, gD_sD] <;> (repeat' split) <;> first | rfl | (exfalso; omega) | simp_all)) ?_
        refine pw_iret r_4_readOpen_80 rfl (Nat.le_refl _) ⟨rfl, ?_⟩
        exact h1 f1 _ (EvX_parF h40 (by omega) q1) (by omega) (by omega)
      · skip
        intro a1 s1 q1 q2 q3
        refine pw_istore (ls' := [some (vR 4 (0)), some (vI (c)), some (vI (o)), some (vI (s1 e))]) r_4_readOpen_52 rfl rfl ?_
        refine pw_aload r_4_readOpen_53 rfl ?_
        refine pw_callV (av := []) (st := []) (ls0 := [some (vR 4 (0))]) r_4_readOpen_54 rfl rfl rfl (Nat.le_refl _) ?_
        refine sgO (cb := cb) (rb := rb) (n := n) (b := b) (a := a1) (by exact hby) (hsh) (by exact hb) (by first | exact hn | (simp (disch := decide) only [gF_sF]; first | done | exact hn | omega | (simp; first | done | omega))) (by first | exact ha | rfl | (simp (disch := decide) only [gF_sF]; first | done | omega | (simp; first | done | omega))) (by first | exact hf | (simp (disch := decide) only [gF_sF]; first | done | exact hf | omega | (simp; first | done | omega))) (by first | assumption | exact hnn | omega) (by first | assumption | exact haa | omega) ?_
        refine pw_const r_4_readOpen_57 ?_
        refine pw_icmp_ne r_4_readOpen_59 (fun h59 => ?_) (fun h59 => ?_)
        · skip
          refine pw_aload r_4_readOpen_75 rfl ?_
          refine pw_callV (av := []) (st := []) (ls0 := [some (vR 4 (0))]) r_4_readOpen_76 rfl rfl rfl (Nat.le_refl _) ?_
          refine flO (a := a1) (by first | exact ha | rfl | (simp (disch := decide) only [gF_sF]; first | done | omega | (simp; first | done | omega))) (by first | exact hf | (simp (disch := decide) only [gF_sF]; first | done | exact hf | omega | (simp; first | done | omega))) ?_
          refine pw_iload r_4_readOpen_79 rfl ?_
          refine pw_eqG (G' := sF (sF G 4 (0) 5 (a1)) 4 (0) 1 (a1)) (by first | rfl | (rw [uA_self]; done) | (rw [sA_uA]; done) | (rw [sA_eq]; done) | (simp (disch := decide) only [sA_uA, sA_uA_ne, uA_abs, uA_abs2, uA_uA]; done) | (simp (disch := decide) only [sA_eq, sA_uA, sA_uA_ne, uA_abs, uA_abs2, uA_uA]; done) | (refine PH_ext (fun _ _ _ => ?_) (fun _ _ _ => ?_) (fun _ _ _ => ?_) <;> simp only [gF_sF, gF_sA, gF_uA, gF_sD, gA_sF, gA_sA, gA_uA, gA_sD, gD_sF, gD_sA, gD_uA, gD_sD] <;> (repeat' split) <;> first | rfl | (exfalso; omega) | simp_all)) ?_
          refine pw_iret r_4_readOpen_80 rfl (Nat.le_refl _) ⟨rfl, ?_⟩
          first | exact h1 a1 _ (EvX_parN h40 (by omega) q1 h59) (by omega) (by omega) | exact h2 (a1 + 1) s1 (EvX_par h40 (by omega) q1 h59) (by omega) (by have := sgn_lt (show sgn b n a1 ≠ -1 by omega); omega)
        · skip
          refine pw_aload r_4_readOpen_62 rfl ?_
          refine pw_dup r_4_readOpen_63 rfl ?_
          refine pw_getIv (v := a1) r_4_readOpen_64 fs_4_5 (by decide) (by first | rfl | simp [gF_sF, gF_sA, gF_uA, gF_sD, gA_sF, gA_sA, gA_uA, gA_sD, gD_sF, gD_sA, gD_uA, gD_sD]) ?_
          refine pw_const r_4_readOpen_67 ?_
          refine pw_iadd r_4_readOpen_68 (by omega) ?_
          refine pw_putI r_4_readOpen_69 (by decide +kernel) fs_4_5 (by decide) ?_
          refine pw_goto r_4_readOpen_72 ?_
          refine pw_iload r_4_readOpen_79 rfl ?_
          refine pw_eqG (G' := sF G 4 (0) 5 ((a1 + 1))) (by first | rfl | (rw [uA_self]; done) | (rw [sA_uA]; done) | (rw [sA_eq]; done) | (simp (disch := decide) only [sA_uA, sA_uA_ne, uA_abs, uA_abs2, uA_uA]; done) | (simp (disch := decide) only [sA_eq, sA_uA, sA_uA_ne, uA_abs, uA_abs2, uA_uA]; done) | (refine PH_ext (fun _ _ _ => ?_) (fun _ _ _ => ?_) (fun _ _ _ => ?_) <;> simp only [gF_sF, gF_sA, gF_uA, gF_sD, gA_sF, gA_sA, gA_uA, gA_sD, gD_sF, gD_sA, gD_uA, gD_sD] <;> (repeat' split) <;> first | rfl | (exfalso; omega) | simp_all)) ?_
          refine pw_iret r_4_readOpen_80 rfl (Nat.le_refl _) ⟨rfl, ?_⟩
          first | exact h1 a1 _ (EvX_parN h40 (by omega) q1 h59) (by omega) (by omega) | exact h2 (a1 + 1) s1 (EvX_par h40 (by omega) q1 h59) (by omega) (by have := sgn_lt (show sgn b n a1 ≠ -1 by omega); omega)
    · skip
      have h33 : sgn b n a = 33 := by omega
      refine pw_aload r_4_readOpen_28 rfl ?_
      refine pw_iload r_4_readOpen_29 rfl ?_
      refine pw_const r_4_readOpen_30 ?_
      refine pw_iadd r_4_readOpen_31 (by omega) ?_
      refine pw_callV (av := [vI ((o + 1))]) (st := []) (ls0 := [some (vR 4 (0)), some (vI ((o + 1))), none, none, none]) r_4_readOpen_32 rfl rfl rfl (Nat.le_refl _) ?_
      refine hO (d := d) (cb := cb) (rb := rb) (n := n) (b := b) (a := (a + 1)) (o := (o + 1)) (e := e) (by omega) (by exact hby) (hsh) (by exact hb) (by first | exact hn | (simp (disch := decide) only [gF_sF]; first | done | exact hn | omega | (simp; first | done | omega))) (by first | exact ha | rfl | (simp (disch := decide) only [gF_sF]; first | done | omega | (simp; first | done | omega))) (by first | exact hf | (simp (disch := decide) only [gF_sF]; first | done | exact hf | omega | (simp; first | done | omega))) (by first | assumption | exact hnn | omega) (by first | assumption | exact haa | omega) (by exact hve) (by first | assumption | exact ho | omega) ?_ ?_
      · skip
        intro f1 v1 q1 q2 q3
        refine pw_if_ne r_4_readOpen_35 (fun h35 => ?_) (fun h35 => ?_)
        · skip
          refine pw_const r_4_readOpen_42 ?_
          refine pw_eqG (G' := sF (sF G 4 (0) 5 (f1)) 4 (0) 1 (f1)) (by first | rfl | (rw [uA_self]; done) | (rw [sA_uA]; done) | (rw [sA_eq]; done) | (simp (disch := decide) only [sA_uA, sA_uA_ne, uA_abs, uA_abs2, uA_uA]; done) | (simp (disch := decide) only [sA_eq, sA_uA, sA_uA_ne, uA_abs, uA_abs2, uA_uA]; done) | (refine PH_ext (fun _ _ _ => ?_) (fun _ _ _ => ?_) (fun _ _ _ => ?_) <;> simp only [gF_sF, gF_sA, gF_uA, gF_sD, gA_sF, gA_sA, gA_uA, gA_sD, gD_sF, gD_sA, gD_uA, gD_sD] <;> (repeat' split) <;> first | rfl | (exfalso; omega) | simp_all)) ?_
          refine pw_iret r_4_readOpen_43 rfl (Nat.le_refl _) ⟨rfl, ?_⟩
          exact h1 f1 _ (EvX_notF h33 (by omega) q1) (by omega) (by omega)
        · skip
          refine pw_const r_4_readOpen_38 ?_
          refine pw_goto r_4_readOpen_39 ?_
          refine pw_eqG (G' := sF (sF G 4 (0) 5 (f1)) 4 (0) 1 (f1)) (by first | rfl | (rw [uA_self]; done) | (rw [sA_uA]; done) | (rw [sA_eq]; done) | (simp (disch := decide) only [sA_uA, sA_uA_ne, uA_abs, uA_abs2, uA_uA]; done) | (simp (disch := decide) only [sA_eq, sA_uA, sA_uA_ne, uA_abs, uA_abs2, uA_uA]; done) | (refine PH_ext (fun _ _ _ => ?_) (fun _ _ _ => ?_) (fun _ _ _ => ?_) <;> simp only [gF_sF, gF_sA, gF_uA, gF_sD, gA_sF, gA_sA, gA_uA, gA_sD, gD_sF, gD_sA, gD_uA, gD_sD] <;> (repeat' split) <;> first | rfl | (exfalso; omega) | simp_all)) ?_
          refine pw_iret r_4_readOpen_43 rfl (Nat.le_refl _) ⟨rfl, ?_⟩
          exact h1 f1 _ (EvX_notF h33 (by omega) q1) (by omega) (by omega)
      · skip
        intro a1 s1 q1 q2 q3
        refine pw_if_ne r_4_readOpen_35 (fun h35 => ?_) (fun h35 => ?_)
        · skip
          refine pw_const r_4_readOpen_42 ?_
          refine pw_eqG (G' := sF G 4 (0) 5 (a1)) (by first | rfl | (rw [uA_self]; done) | (rw [sA_uA]; done) | (rw [sA_eq]; done) | (simp (disch := decide) only [sA_uA, sA_uA_ne, uA_abs, uA_abs2, uA_uA]; done) | (simp (disch := decide) only [sA_eq, sA_uA, sA_uA_ne, uA_abs, uA_abs2, uA_uA]; done) | (refine PH_ext (fun _ _ _ => ?_) (fun _ _ _ => ?_) (fun _ _ _ => ?_) <;> simp only [gF_sF, gF_sA, gF_uA, gF_sD, gA_sF, gA_sA, gA_uA, gA_sD, gD_sF, gD_sA, gD_uA, gD_sD] <;> (repeat' split) <;> first | rfl | (exfalso; omega) | simp_all)) ?_
          refine pw_iret r_4_readOpen_43 rfl (Nat.le_refl _) ⟨rfl, ?_⟩
          exact pe (h2 a1 _ (EvX_not h33 (by omega) q1) (by omega) (by omega)) (by first | exact (b2i_t (by omega)).symm | exact (b2i_f (by omega)).symm)
        · skip
          refine pw_const r_4_readOpen_38 ?_
          refine pw_goto r_4_readOpen_39 ?_
          refine pw_eqG (G' := sF G 4 (0) 5 (a1)) (by first | rfl | (rw [uA_self]; done) | (rw [sA_uA]; done) | (rw [sA_eq]; done) | (simp (disch := decide) only [sA_uA, sA_uA_ne, uA_abs, uA_abs2, uA_uA]; done) | (simp (disch := decide) only [sA_eq, sA_uA, sA_uA_ne, uA_abs, uA_abs2, uA_uA]; done) | (refine PH_ext (fun _ _ _ => ?_) (fun _ _ _ => ?_) (fun _ _ _ => ?_) <;> simp only [gF_sF, gF_sA, gF_uA, gF_sD, gA_sF, gA_sA, gA_uA, gA_sD, gD_sF, gD_sA, gD_uA, gD_sD] <;> (repeat' split) <;> first | rfl | (exfalso; omega) | simp_all)) ?_
          refine pw_iret r_4_readOpen_43 rfl (Nat.le_refl _) ⟨rfl, ?_⟩
          exact pe (h2 a1 _ (EvX_not h33 (by omega) q1) (by omega) (by omega)) (by first | exact (b2i_t (by omega)).symm | exact (b2i_f (by omega)).symm)
  · skip
    refine pw_aload r_4_readOpen_6 rfl ?_
    refine pw_callV (av := []) (st := []) (ls0 := [some (vR 4 (0))]) r_4_readOpen_7 rfl rfl rfl (Nat.le_refl _) ?_
    refine flO (a := a) (by first | exact ha | rfl | (simp (disch := decide) only [gF_sF]; first | done | omega | (simp; first | done | omega))) (by first | exact hf | (simp (disch := decide) only [gF_sF]; first | done | exact hf | omega | (simp; first | done | omega))) ?_
    refine pw_const r_4_readOpen_10 ?_
    refine pw_eqG (G' := sF (sF G 4 0 5 a) 4 0 1 a) (by rw [sF_idv ha]) ?_
    refine pw_iret r_4_readOpen_11 rfl (Nat.le_refl _) ⟨rfl, ?_⟩
    exact h1 a 0 (EvX_deep (by omega) (by omega)) (by omega) (by omega)
theorem readers {l : Launch} {w : Wo} : ∀ n0 : Nat, (∀ {d : Nat} {G : PH} {P : Option PV → PH → Prop} {cb : Nat} {rb r o n a : Int} {b e : Int → Int}, (13 * (8 - o) + 2 * (5 - r) + 2 < (n0 : Int)) → (gD G 4 0 3 = some (cb, rb)) → (shp cb = (1, 160, 1)) → (∀ j, 0 ≤ j → j < n → b j = pAnd (gA G cb rb j) 255) → ((gF G 4 0 4) = n) → ((gF G 4 0 5) = a) → ((gF G 4 0 1) < 0) → (n ≤ 160) → (0 ≤ a ∧ a ≤ n) → (∀ j, 0 ≤ j → j < 9 → (gA G 46 0 (j)) = e j) → (0 ≤ r ∧ r ≤ 4) → (0 ≤ o ∧ o ≤ 8) → (∀ f v, EvX b n r o a none (.inl f) → a ≤ f → f ≤ n → P (some (vI v)) (sF (sF G 4 0 5 f) 4 0 1 f)) → (∀ a1 s1, EvX b n r o a none (.inr (a1, s1)) → a ≤ a1 → a1 ≤ n → P (some (vI (s1 e))) (sF G 4 0 5 a1)) → PW l w M_X4_readRank (d + n0 + 3) 0 [some (vR 4 (0)), some (vI (r)), some (vI (o)), none, none, none, none] [] G P) ∧ (∀ {d : Nat} {G : PH} {P : Option PV → PH → Prop} {cb : Nat} {rb r o n a : Int} {b e : Int → Int}, (13 * (8 - o) + 2 * (5 - r) + 3 < (n0 : Int)) → (gD G 4 0 3 = some (cb, rb)) → (shp cb = (1, 160, 1)) → (∀ j, 0 ≤ j → j < n → b j = pAnd (gA G cb rb j) 255) → ((gF G 4 0 4) = n) → ((gF G 4 0 5) = a) → ((gF G 4 0 1) < 0) → (n ≤ 160) → (0 ≤ a ∧ a ≤ n) → (∀ j, 0 ≤ j → j < 9 → (gA G 46 0 (j)) = e j) → (0 ≤ r ∧ r ≤ 5) → (0 ≤ o ∧ o ≤ 8) → (∀ f v, EvX b n r o a none (.inl f) → a ≤ f → f ≤ n → P (some (vI v)) (sF (sF G 4 0 5 f) 4 0 1 f)) → (∀ a1 s1, EvX b n r o a none (.inr (a1, s1)) → a ≤ a1 → a1 ≤ n → P (some (vI (s1 e))) (sF G 4 0 5 a1)) → PW l w M_X4_readPart (d + n0 + 3) 0 [some (vR 4 (0)), some (vI (r)), some (vI (o))] [] G P) ∧ (∀ {d : Nat} {G : PH} {P : Option PV → PH → Prop} {cb : Nat} {rb o n a : Int} {b e : Int → Int}, (13 * (8 - o) + 2 < (n0 : Int)) → (gD G 4 0 3 = some (cb, rb)) → (shp cb = (1, 160, 1)) → (∀ j, 0 ≤ j → j < n → b j = pAnd (gA G cb rb j) 255) → ((gF G 4 0 4) = n) → ((gF G 4 0 5) = a) → ((gF G 4 0 1) < 0) → (n ≤ 160) → (0 ≤ a ∧ a ≤ n) → (∀ j, 0 ≤ j → j < 9 → (gA G 46 0 (j)) = e j) → (0 ≤ o ∧ o ≤ 8) → (∀ f v, EvX b n 5 o a none (.inl f) → a ≤ f → f ≤ n → P (some (vI v)) (sF (sF G 4 0 5 f) 4 0 1 f)) → (∀ a1 s1, EvX b n 5 o a none (.inr (a1, s1)) → a ≤ a1 → a1 ≤ n → P (some (vI (s1 e))) (sF G 4 0 5 a1)) → PW l w M_X4_readOperand (d + n0 + 3) 0 [some (vR 4 (0)), some (vI (o)), none, none, none] [] G P) ∧ (∀ {d : Nat} {G : PH} {P : Option PV → PH → Prop} {cb : Nat} {rb c o n a : Int} {b e : Int → Int}, (13 * (8 - o) + 1 < (n0 : Int)) → (gD G 4 0 3 = some (cb, rb)) → (shp cb = (1, 160, 1)) → (∀ j, 0 ≤ j → j < n → b j = pAnd (gA G cb rb j) 255) → ((gF G 4 0 4) = n) → ((gF G 4 0 5) = a) → ((gF G 4 0 1) < 0) → (n ≤ 160) → (0 ≤ a ∧ a ≤ n) → (∀ j, 0 ≤ j → j < 9 → (gA G 46 0 (j)) = e j) → (0 ≤ o ∧ o ≤ 8) → ((c = 33 ∨ c = 40) ∧ sgn b n a = c) → (∀ f v, EvX b n 5 o a none (.inl f) → a ≤ f → f ≤ n → P (some (vI v)) (sF (sF G 4 0 5 f) 4 0 1 f)) → (∀ a1 s1, EvX b n 5 o a none (.inr (a1, s1)) → a ≤ a1 → a1 ≤ n → P (some (vI (s1 e))) (sF G 4 0 5 a1)) → PW l w M_X4_readOpen (d + n0 + 3) 0 [some (vR 4 (0)), some (vI (c)), some (vI (o)), none] [] G P)
  | 0 => ⟨by intros; exfalso; omega, by intros; exfalso; omega, by intros; exfalso; omega, by intros; exfalso; omega⟩
  | n + 1 => ⟨sp_X4_readRank_s n (readers n).2.1, sp_X4_readPart_s n (readers n).1 (readers n).2.2.1, sp_X4_readOperand_s n (readers n).2.2.2, sp_X4_readOpen_s n (readers n).2.2.1 (readers n).1⟩
theorem sp_X4_readRank {l : Launch} {w : Wo} : ∀ n0 : Nat, ∀ {d : Nat} {G : PH} {P : Option PV → PH → Prop} {cb : Nat} {rb r o n a : Int} {b e : Int → Int}, (13 * (8 - o) + 2 * (5 - r) + 2 < (n0 : Int)) → (gD G 4 0 3 = some (cb, rb)) → (shp cb = (1, 160, 1)) → (∀ j, 0 ≤ j → j < n → b j = pAnd (gA G cb rb j) 255) → ((gF G 4 0 4) = n) → ((gF G 4 0 5) = a) → ((gF G 4 0 1) < 0) → (n ≤ 160) → (0 ≤ a ∧ a ≤ n) → (∀ j, 0 ≤ j → j < 9 → (gA G 46 0 (j)) = e j) → (0 ≤ r ∧ r ≤ 4) → (0 ≤ o ∧ o ≤ 8) → (∀ f v, EvX b n r o a none (.inl f) → a ≤ f → f ≤ n → P (some (vI v)) (sF (sF G 4 0 5 f) 4 0 1 f)) → (∀ a1 s1, EvX b n r o a none (.inr (a1, s1)) → a ≤ a1 → a1 ≤ n → P (some (vI (s1 e))) (sF G 4 0 5 a1)) → PW l w M_X4_readRank (d + n0 + 3) 0 [some (vR 4 (0)), some (vI (r)), some (vI (o)), none, none, none, none] [] G P := fun n0 => (readers n0).1
