theorem wd_m5_3 : Cond.methodLink "NameRolls$Rolls" 3 Lib.objectInit ∈ UW := UW2_at 20 (by decide +kernel) rfl
theorem wd_cl5_15 : Cond.classLink "NameRolls$Rolls" 15 "[[I" ∈ UW := UW2_at 21 (by decide +kernel) rfl
theorem wd_cl5_39 : Cond.classLink "NameRolls$Rolls" 39 "[[S" ∈ UW := UW2_at 23 (by decide +kernel) rfl
theorem wd_m10_3 : Cond.methodLink "NameRolls$Trade" 3 Lib.objectInit ∈ UW := UW2_at 72 (by decide +kernel) rfl
theorem wd_cl10_11 : Cond.classLink "NameRolls$Trade" 11 "[[I" ∈ UW := UW2_at 73 (by decide +kernel) rfl
theorem wd_m7_3 : Cond.methodLink "NameRolls$Ship" 3 Lib.objectInit ∈ UW := UW2_at 116 (by decide +kernel) rfl
theorem wd_m0_5 : Cond.methodLink "NameRolls$Bridge" 5 Lib.objectInit ∈ UW := UW2_at 174 (by decide +kernel) rfl
theorem wd_cl0_11 : Cond.classLink "NameRolls$Bridge" 11 "[[I" ∈ UW := UW2_at 175 (by decide +kernel) rfl
theorem wd_m6_3 : Cond.methodLink "NameRolls$Rounds" 3 Lib.objectInit ∈ UW := UW2_at 209 (by decide +kernel) rfl
theorem r_5_init_1 : ROI M_X5_init 1 4 := ⟨3, by decide +kernel, wd_m5_3, oin_ok.1, oin_ok.2, rfl⟩
theorem r_5_init_0 : RA M_X5_init 0 0 1 := Or.inl ⟨0, by decide +kernel, rfl, rfl⟩
theorem r_5_init_4 : RA M_X5_init 4 0 5 := Or.inl ⟨0, by decide +kernel, rfl, rfl⟩
theorem r_5_init_5 : RC M_X5_init 5 100 7 := ⟨⟨by decide, by decide⟩, Or.inr (Or.inl ⟨by decide +kernel, by decide, rfl⟩)⟩
theorem r_5_init_7 : RNA M_X5_init 7 0 9 := ⟨.int, by decide +kernel, rfl, rfl⟩
theorem r_5_init_9 : RP M_X5_init 9 5 1 12 := ⟨11, _, by decide +kernel, rfl, by decide, wd_f5_11, rfl, Or.inr ⟨rfl, rfl, rfl⟩, rfl⟩
theorem r_5_init_16 : RNM M_X5_init 16 0 20 := ⟨15, by decide +kernel, wd_cl5_15, rfl⟩
theorem r_5_init_12 : RA M_X5_init 12 0 13 := Or.inl ⟨0, by decide +kernel, rfl, rfl⟩
theorem r_5_init_13 : RC M_X5_init 13 100 15 := ⟨⟨by decide, by decide⟩, Or.inr (Or.inl ⟨by decide +kernel, by decide, rfl⟩)⟩
theorem r_5_init_15 : RC M_X5_init 15 5 16 := ⟨⟨by decide, by decide⟩, Or.inl ⟨by decide +kernel, rfl⟩⟩
theorem r_5_init_20 : RP M_X5_init 20 5 2 23 := ⟨17, _, by decide +kernel, rfl, by decide, wd_f5_17, rfl, Or.inr ⟨rfl, rfl, rfl⟩, rfl⟩
theorem r_5_init_23 : RA M_X5_init 23 0 24 := Or.inl ⟨0, by decide +kernel, rfl, rfl⟩
theorem r_5_init_24 : RC M_X5_init 24 100 26 := ⟨⟨by decide, by decide⟩, Or.inr (Or.inl ⟨by decide +kernel, by decide, rfl⟩)⟩
theorem r_5_init_26 : RNA M_X5_init 26 0 28 := ⟨.int, by decide +kernel, rfl, rfl⟩
theorem r_5_init_28 : RP M_X5_init 28 5 3 31 := ⟨20, _, by decide +kernel, rfl, by decide, wd_f5_20, rfl, Or.inr ⟨rfl, rfl, rfl⟩, rfl⟩
theorem r_5_init_31 : RA M_X5_init 31 0 32 := Or.inl ⟨0, by decide +kernel, rfl, rfl⟩
theorem r_5_init_32 : RC M_X5_init 32 100 34 := ⟨⟨by decide, by decide⟩, Or.inr (Or.inl ⟨by decide +kernel, by decide, rfl⟩)⟩
theorem r_5_init_34 : RNA M_X5_init 34 0 36 := ⟨.int, by decide +kernel, rfl, rfl⟩
theorem r_5_init_36 : RP M_X5_init 36 5 4 39 := ⟨23, _, by decide +kernel, rfl, by decide, wd_f5_23, rfl, Or.inr ⟨rfl, rfl, rfl⟩, rfl⟩
theorem r_5_init_39 : RA M_X5_init 39 0 40 := Or.inl ⟨0, by decide +kernel, rfl, rfl⟩
theorem r_5_init_40 : RC M_X5_init 40 100 42 := ⟨⟨by decide, by decide⟩, Or.inr (Or.inl ⟨by decide +kernel, by decide, rfl⟩)⟩
theorem r_5_init_42 : RNA M_X5_init 42 0 44 := ⟨.int, by decide +kernel, rfl, rfl⟩
theorem r_5_init_44 : RP M_X5_init 44 5 5 47 := ⟨26, _, by decide +kernel, rfl, by decide, wd_f5_26, rfl, Or.inr ⟨rfl, rfl, rfl⟩, rfl⟩
theorem r_5_init_47 : RA M_X5_init 47 0 48 := Or.inl ⟨0, by decide +kernel, rfl, rfl⟩
theorem r_5_init_48 : RC M_X5_init 48 784 51 := ⟨⟨by decide, by decide⟩, Or.inr (Or.inr (Or.inl ⟨by decide +kernel, by decide, rfl⟩))⟩
theorem r_5_init_51 : RNA M_X5_init 51 2 53 := ⟨.boolean, by decide +kernel, rfl, rfl⟩
theorem r_5_init_53 : RP M_X5_init 53 5 6 56 := ⟨29, _, by decide +kernel, rfl, by decide, wd_f5_29, rfl, Or.inr ⟨rfl, rfl, rfl⟩, rfl⟩
theorem r_5_init_56 : RA M_X5_init 56 0 57 := Or.inl ⟨0, by decide +kernel, rfl, rfl⟩
theorem r_5_init_57 : RC M_X5_init 57 100 59 := ⟨⟨by decide, by decide⟩, Or.inr (Or.inl ⟨by decide +kernel, by decide, rfl⟩)⟩
theorem r_5_init_59 : RNA M_X5_init 59 0 61 := ⟨.int, by decide +kernel, rfl, rfl⟩
theorem r_5_init_61 : RP M_X5_init 61 5 7 64 := ⟨33, _, by decide +kernel, rfl, by decide, wd_f5_33, rfl, Or.inr ⟨rfl, rfl, rfl⟩, rfl⟩
theorem r_5_init_64 : RA M_X5_init 64 0 65 := Or.inl ⟨0, by decide +kernel, rfl, rfl⟩
theorem r_5_init_65 : RC M_X5_init 65 100 67 := ⟨⟨by decide, by decide⟩, Or.inr (Or.inl ⟨by decide +kernel, by decide, rfl⟩)⟩
theorem r_5_init_67 : RNA M_X5_init 67 0 69 := ⟨.int, by decide +kernel, rfl, rfl⟩
theorem r_5_init_69 : RP M_X5_init 69 5 8 72 := ⟨36, _, by decide +kernel, rfl, by decide, wd_f5_36, rfl, Or.inr ⟨rfl, rfl, rfl⟩, rfl⟩
theorem r_5_init_76 : RNM M_X5_init 76 3 80 := ⟨39, by decide +kernel, wd_cl5_39, rfl⟩
theorem r_5_init_72 : RA M_X5_init 72 0 73 := Or.inl ⟨0, by decide +kernel, rfl, rfl⟩
theorem r_5_init_73 : RC M_X5_init 73 4 74 := ⟨⟨by decide, by decide⟩, Or.inl ⟨by decide +kernel, rfl⟩⟩
theorem r_5_init_74 : RC M_X5_init 74 60 76 := ⟨⟨by decide, by decide⟩, Or.inr (Or.inl ⟨by decide +kernel, by decide, rfl⟩)⟩
theorem r_5_init_80 : RP M_X5_init 80 5 9 83 := ⟨41, _, by decide +kernel, rfl, by decide, wd_f5_41, rfl, Or.inr ⟨rfl, rfl, rfl⟩, rfl⟩
theorem r_5_init_83 : RA M_X5_init 83 0 84 := Or.inl ⟨0, by decide +kernel, rfl, rfl⟩
theorem r_5_init_84 : RC M_X5_init 84 4 85 := ⟨⟨by decide, by decide⟩, Or.inl ⟨by decide +kernel, rfl⟩⟩
theorem r_5_init_85 : RNA M_X5_init 85 0 87 := ⟨.int, by decide +kernel, rfl, rfl⟩
theorem r_5_init_87 : RP M_X5_init 87 5 10 90 := ⟨44, _, by decide +kernel, rfl, by decide, wd_f5_44, rfl, Or.inr ⟨rfl, rfl, rfl⟩, rfl⟩
theorem r_5_init_90 : RA M_X5_init 90 0 91 := Or.inl ⟨0, by decide +kernel, rfl, rfl⟩
theorem r_5_init_91 : RC M_X5_init 91 4 92 := ⟨⟨by decide, by decide⟩, Or.inl ⟨by decide +kernel, rfl⟩⟩
theorem r_5_init_92 : RNA M_X5_init 92 0 94 := ⟨.int, by decide +kernel, rfl, rfl⟩
theorem r_5_init_94 : RP M_X5_init 94 5 11 97 := ⟨47, _, by decide +kernel, rfl, by decide, wd_f5_47, rfl, Or.inr ⟨rfl, rfl, rfl⟩, rfl⟩
theorem r_5_init_97 : RA M_X5_init 97 0 98 := Or.inl ⟨0, by decide +kernel, rfl, rfl⟩
theorem r_5_init_98 : RC M_X5_init 98 (-1) 99 := ⟨⟨by decide, by decide⟩, Or.inl ⟨by decide +kernel, rfl⟩⟩
theorem r_5_init_99 : RP M_X5_init 99 5 12 102 := ⟨50, _, by decide +kernel, rfl, by decide, wd_f5_50, rfl, Or.inl rfl, rfl⟩
theorem r_5_init_130 : RL M_X5_init 130 1 131 := Or.inl ⟨1, by decide +kernel, rfl, rfl⟩
theorem r_5_init_131 : RC M_X5_init 131 4 132 := ⟨⟨by decide, by decide⟩, Or.inl ⟨by decide +kernel, rfl⟩⟩
theorem r_5_init_132 : RB M_X5_init 132 (.if_icmp .ge) 148 135 := ⟨16, by decide +kernel, rfl, rfl⟩
theorem r_5_init_148 : RW M_X5_init 148 .return_ 149 1 := ⟨by decide +kernel, rfl⟩
theorem r_5_init_135 : RA M_X5_init 135 0 136 := Or.inl ⟨0, by decide +kernel, rfl, rfl⟩
theorem r_5_init_136 : RG M_X5_init 136 5 10 139 := ⟨44, _, by decide +kernel, rfl, by decide, wd_f5_44, rfl, rfl⟩
theorem r_5_init_139 : RL M_X5_init 139 1 140 := Or.inl ⟨1, by decide +kernel, rfl, rfl⟩
theorem r_5_init_140 : RC M_X5_init 140 (-1) 141 := ⟨⟨by decide, by decide⟩, Or.inl ⟨by decide +kernel, rfl⟩⟩
theorem r_5_init_142 : RI M_X5_init 142 1 1 145 := ⟨by decide, by decide +kernel, rfl⟩
theorem r_5_init_145 : RB M_X5_init 145 .goto 130 148 := ⟨(-15), by decide +kernel, rfl, rfl⟩
theorem r_5_init_104 : RL M_X5_init 104 1 105 := Or.inl ⟨1, by decide +kernel, rfl, rfl⟩
theorem r_5_init_105 : RC M_X5_init 105 26 107 := ⟨⟨by decide, by decide⟩, Or.inr (Or.inl ⟨by decide +kernel, by decide, rfl⟩)⟩
theorem r_5_init_107 : RB M_X5_init 107 (.if_icmp .gt) 128 110 := ⟨21, by decide +kernel, rfl, rfl⟩
theorem r_5_init_128 : RC M_X5_init 128 0 129 := ⟨⟨by decide, by decide⟩, Or.inl ⟨by decide +kernel, rfl⟩⟩
theorem r_5_init_129 : RS M_X5_init 129 1 130 := ⟨by decide, Or.inl ⟨1, by decide +kernel, rfl, rfl⟩⟩
theorem r_5_init_110 : RA M_X5_init 110 0 111 := Or.inl ⟨0, by decide +kernel, rfl, rfl⟩
theorem r_5_init_111 : RG M_X5_init 111 5 6 114 := ⟨29, _, by decide +kernel, rfl, by decide, wd_f5_29, rfl, rfl⟩
theorem r_5_init_114 : RL M_X5_init 114 1 115 := Or.inl ⟨1, by decide +kernel, rfl, rfl⟩
theorem r_5_init_115 : RC M_X5_init 115 28 117 := ⟨⟨by decide, by decide⟩, Or.inr (Or.inl ⟨by decide +kernel, by decide, rfl⟩)⟩
theorem r_5_init_117 : RW M_X5_init 117 .imul 118 1 := ⟨by decide +kernel, rfl⟩
theorem r_5_init_118 : RL M_X5_init 118 1 119 := Or.inl ⟨1, by decide +kernel, rfl, rfl⟩
theorem r_5_init_119 : RW M_X5_init 119 .iadd 120 1 := ⟨by decide +kernel, rfl⟩
theorem r_5_init_120 : RC M_X5_init 120 1 121 := ⟨⟨by decide, by decide⟩, Or.inl ⟨by decide +kernel, rfl⟩⟩
theorem r_5_init_122 : RI M_X5_init 122 1 1 125 := ⟨by decide, by decide +kernel, rfl⟩
theorem r_5_init_125 : RB M_X5_init 125 .goto 104 128 := ⟨(-21), by decide +kernel, rfl, rfl⟩
theorem r_5_init_102 : RC M_X5_init 102 1 103 := ⟨⟨by decide, by decide⟩, Or.inl ⟨by decide +kernel, rfl⟩⟩
theorem r_5_init_103 : RS M_X5_init 103 1 104 := ⟨by decide, Or.inl ⟨1, by decide +kernel, rfl, rfl⟩⟩
theorem r_10_init_1 : ROI M_X10_init 1 4 := ⟨3, by decide +kernel, wd_m10_3, oin_ok.1, oin_ok.2, rfl⟩
theorem r_10_init_0 : RA M_X10_init 0 0 1 := Or.inl ⟨0, by decide +kernel, rfl, rfl⟩
theorem r_10_init_8 : RNM M_X10_init 8 0 12 := ⟨11, by decide +kernel, wd_cl10_11, rfl⟩
theorem r_10_init_4 : RA M_X10_init 4 0 5 := Or.inl ⟨0, by decide +kernel, rfl, rfl⟩
theorem r_10_init_5 : RC M_X10_init 5 2 6 := ⟨⟨by decide, by decide⟩, Or.inl ⟨by decide +kernel, rfl⟩⟩
theorem r_10_init_6 : RC M_X10_init 6 7 8 := ⟨⟨by decide, by decide⟩, Or.inr (Or.inl ⟨by decide +kernel, by decide, rfl⟩)⟩
theorem r_10_init_12 : RP M_X10_init 12 10 2 15 := ⟨13, _, by decide +kernel, rfl, by decide, wd_f10_13, rfl, Or.inr ⟨rfl, rfl, rfl⟩, rfl⟩
theorem r_10_init_15 : RA M_X10_init 15 0 16 := Or.inl ⟨0, by decide +kernel, rfl, rfl⟩
theorem r_10_init_16 : RC M_X10_init 16 2 17 := ⟨⟨by decide, by decide⟩, Or.inl ⟨by decide +kernel, rfl⟩⟩
theorem r_10_init_17 : RNA M_X10_init 17 0 19 := ⟨.int, by decide +kernel, rfl, rfl⟩
theorem r_10_init_19 : RP M_X10_init 19 10 3 22 := ⟨16, _, by decide +kernel, rfl, by decide, wd_f10_16, rfl, Or.inr ⟨rfl, rfl, rfl⟩, rfl⟩
theorem r_10_init_22 : RA M_X10_init 22 0 23 := Or.inl ⟨0, by decide +kernel, rfl, rfl⟩
theorem r_10_init_23 : RC M_X10_init 23 2 24 := ⟨⟨by decide, by decide⟩, Or.inl ⟨by decide +kernel, rfl⟩⟩
theorem r_10_init_24 : RNA M_X10_init 24 0 26 := ⟨.int, by decide +kernel, rfl, rfl⟩
theorem r_10_init_26 : RW M_X10_init 26 .dup 27 1 := ⟨by decide +kernel, rfl⟩
theorem r_10_init_27 : RC M_X10_init 27 0 28 := ⟨⟨by decide, by decide⟩, Or.inl ⟨by decide +kernel, rfl⟩⟩
theorem r_10_init_28 : RC M_X10_init 28 (-1) 29 := ⟨⟨by decide, by decide⟩, Or.inl ⟨by decide +kernel, rfl⟩⟩
theorem r_10_init_30 : RW M_X10_init 30 .dup 31 1 := ⟨by decide +kernel, rfl⟩
theorem r_10_init_31 : RC M_X10_init 31 1 32 := ⟨⟨by decide, by decide⟩, Or.inl ⟨by decide +kernel, rfl⟩⟩
theorem r_10_init_32 : RC M_X10_init 32 (-1) 33 := ⟨⟨by decide, by decide⟩, Or.inl ⟨by decide +kernel, rfl⟩⟩
theorem r_10_init_34 : RP M_X10_init 34 10 4 37 := ⟨20, _, by decide +kernel, rfl, by decide, wd_f10_20, rfl, Or.inr ⟨rfl, rfl, rfl⟩, rfl⟩
theorem r_10_init_37 : RA M_X10_init 37 0 38 := Or.inl ⟨0, by decide +kernel, rfl, rfl⟩
theorem r_10_init_38 : RC M_X10_init 38 10 40 := ⟨⟨by decide, by decide⟩, Or.inr (Or.inl ⟨by decide +kernel, by decide, rfl⟩)⟩
theorem r_10_init_40 : RP M_X10_init 40 10 5 43 := ⟨23, _, by decide +kernel, rfl, by decide, wd_f10_23, rfl, Or.inl rfl, rfl⟩
theorem r_10_init_47 : RNM M_X10_init 47 0 51 := ⟨11, by decide +kernel, wd_cl10_11, rfl⟩
theorem r_10_init_43 : RA M_X10_init 43 0 44 := Or.inl ⟨0, by decide +kernel, rfl, rfl⟩
theorem r_10_init_44 : RC M_X10_init 44 2 45 := ⟨⟨by decide, by decide⟩, Or.inl ⟨by decide +kernel, rfl⟩⟩
theorem r_10_init_45 : RC M_X10_init 45 7 47 := ⟨⟨by decide, by decide⟩, Or.inr (Or.inl ⟨by decide +kernel, by decide, rfl⟩)⟩
theorem r_10_init_51 : RP M_X10_init 51 10 6 54 := ⟨27, _, by decide +kernel, rfl, by decide, wd_f10_27, rfl, Or.inr ⟨rfl, rfl, rfl⟩, rfl⟩
theorem r_10_init_58 : RNM M_X10_init 58 0 62 := ⟨11, by decide +kernel, wd_cl10_11, rfl⟩
theorem r_10_init_54 : RA M_X10_init 54 0 55 := Or.inl ⟨0, by decide +kernel, rfl, rfl⟩
theorem r_10_init_55 : RC M_X10_init 55 4 56 := ⟨⟨by decide, by decide⟩, Or.inl ⟨by decide +kernel, rfl⟩⟩
theorem r_10_init_56 : RC M_X10_init 56 7 58 := ⟨⟨by decide, by decide⟩, Or.inr (Or.inl ⟨by decide +kernel, by decide, rfl⟩)⟩
theorem r_10_init_62 : RP M_X10_init 62 10 7 65 := ⟨30, _, by decide +kernel, rfl, by decide, wd_f10_30, rfl, Or.inr ⟨rfl, rfl, rfl⟩, rfl⟩
theorem r_10_init_65 : RA M_X10_init 65 0 66 := Or.inl ⟨0, by decide +kernel, rfl, rfl⟩
theorem r_10_init_66 : RC M_X10_init 66 16 68 := ⟨⟨by decide, by decide⟩, Or.inr (Or.inl ⟨by decide +kernel, by decide, rfl⟩)⟩
theorem r_10_init_68 : RNA M_X10_init 68 0 70 := ⟨.int, by decide +kernel, rfl, rfl⟩
theorem r_10_init_70 : RP M_X10_init 70 10 8 73 := ⟨35, _, by decide +kernel, rfl, by decide, wd_f10_35, rfl, Or.inr ⟨rfl, rfl, rfl⟩, rfl⟩
theorem r_10_init_73 : RA M_X10_init 73 0 74 := Or.inl ⟨0, by decide +kernel, rfl, rfl⟩
theorem r_10_init_74 : RC M_X10_init 74 16 76 := ⟨⟨by decide, by decide⟩, Or.inr (Or.inl ⟨by decide +kernel, by decide, rfl⟩)⟩
theorem r_10_init_76 : RNA M_X10_init 76 0 78 := ⟨.int, by decide +kernel, rfl, rfl⟩
theorem r_10_init_78 : RP M_X10_init 78 10 9 81 := ⟨38, _, by decide +kernel, rfl, by decide, wd_f10_38, rfl, Or.inr ⟨rfl, rfl, rfl⟩, rfl⟩
theorem r_10_init_86 : RNM M_X10_init 86 0 90 := ⟨11, by decide +kernel, wd_cl10_11, rfl⟩
theorem r_10_init_81 : RA M_X10_init 81 0 82 := Or.inl ⟨0, by decide +kernel, rfl, rfl⟩
theorem r_10_init_82 : RC M_X10_init 82 4 83 := ⟨⟨by decide, by decide⟩, Or.inl ⟨by decide +kernel, rfl⟩⟩
theorem r_10_init_83 : RC M_X10_init 83 128 86 := ⟨⟨by decide, by decide⟩, Or.inr (Or.inr (Or.inl ⟨by decide +kernel, by decide, rfl⟩))⟩
theorem r_10_init_90 : RP M_X10_init 90 10 10 93 := ⟨41, _, by decide +kernel, rfl, by decide, wd_f10_41, rfl, Or.inr ⟨rfl, rfl, rfl⟩, rfl⟩
theorem r_10_init_98 : RNM M_X10_init 98 0 102 := ⟨11, by decide +kernel, wd_cl10_11, rfl⟩
theorem r_10_init_93 : RA M_X10_init 93 0 94 := Or.inl ⟨0, by decide +kernel, rfl, rfl⟩
theorem r_10_init_94 : RC M_X10_init 94 2 95 := ⟨⟨by decide, by decide⟩, Or.inl ⟨by decide +kernel, rfl⟩⟩
theorem r_10_init_95 : RC M_X10_init 95 128 98 := ⟨⟨by decide, by decide⟩, Or.inr (Or.inr (Or.inl ⟨by decide +kernel, by decide, rfl⟩))⟩
theorem r_10_init_102 : RP M_X10_init 102 10 11 105 := ⟨44, _, by decide +kernel, rfl, by decide, wd_f10_44, rfl, Or.inr ⟨rfl, rfl, rfl⟩, rfl⟩
theorem r_10_init_105 : RA M_X10_init 105 0 106 := Or.inl ⟨0, by decide +kernel, rfl, rfl⟩
theorem r_10_init_106 : RA M_X10_init 106 1 107 := Or.inl ⟨1, by decide +kernel, rfl, rfl⟩
theorem r_10_init_107 : RP M_X10_init 107 10 0 110 := ⟨47, _, by decide +kernel, rfl, by decide, wd_f10_47, rfl, Or.inr ⟨rfl, rfl, rfl⟩, rfl⟩
theorem r_10_init_110 : RA M_X10_init 110 0 111 := Or.inl ⟨0, by decide +kernel, rfl, rfl⟩
theorem r_10_init_111 : RA M_X10_init 111 2 112 := Or.inl ⟨2, by decide +kernel, rfl, rfl⟩
theorem r_10_init_112 : RP M_X10_init 112 10 1 115 := ⟨51, _, by decide +kernel, rfl, by decide, wd_f10_51, rfl, Or.inr ⟨rfl, rfl, rfl⟩, rfl⟩
theorem r_10_init_115 : RW M_X10_init 115 .return_ 116 1 := ⟨by decide +kernel, rfl⟩
theorem r_7_init_1 : ROI M_X7_init 1 4 := ⟨3, by decide +kernel, wd_m7_3, oin_ok.1, oin_ok.2, rfl⟩
theorem r_7_init_0 : RA M_X7_init 0 0 1 := Or.inl ⟨0, by decide +kernel, rfl, rfl⟩
theorem r_7_init_4 : RA M_X7_init 4 0 5 := Or.inl ⟨0, by decide +kernel, rfl, rfl⟩
theorem r_7_init_5 : RC M_X7_init 5 6 7 := ⟨⟨by decide, by decide⟩, Or.inr (Or.inl ⟨by decide +kernel, by decide, rfl⟩)⟩
theorem r_7_init_7 : RNA M_X7_init 7 0 9 := ⟨.int, by decide +kernel, rfl, rfl⟩
theorem r_7_init_9 : RP M_X7_init 9 7 3 12 := ⟨11, _, by decide +kernel, rfl, by decide, wd_f7_11, rfl, Or.inr ⟨rfl, rfl, rfl⟩, rfl⟩
theorem r_7_init_12 : RA M_X7_init 12 0 13 := Or.inl ⟨0, by decide +kernel, rfl, rfl⟩
theorem r_7_init_13 : RC M_X7_init 13 6 15 := ⟨⟨by decide, by decide⟩, Or.inr (Or.inl ⟨by decide +kernel, by decide, rfl⟩)⟩
theorem r_7_init_15 : RNA M_X7_init 15 0 17 := ⟨.int, by decide +kernel, rfl, rfl⟩
theorem r_7_init_17 : RP M_X7_init 17 7 4 20 := ⟨15, _, by decide +kernel, rfl, by decide, wd_f7_15, rfl, Or.inr ⟨rfl, rfl, rfl⟩, rfl⟩
theorem r_7_init_20 : RA M_X7_init 20 0 21 := Or.inl ⟨0, by decide +kernel, rfl, rfl⟩
theorem r_7_init_21 : RC M_X7_init 21 6 23 := ⟨⟨by decide, by decide⟩, Or.inr (Or.inl ⟨by decide +kernel, by decide, rfl⟩)⟩
theorem r_7_init_23 : RNA M_X7_init 23 0 25 := ⟨.int, by decide +kernel, rfl, rfl⟩
theorem r_7_init_25 : RP M_X7_init 25 7 5 28 := ⟨18, _, by decide +kernel, rfl, by decide, wd_f7_18, rfl, Or.inr ⟨rfl, rfl, rfl⟩, rfl⟩
theorem r_7_init_28 : RA M_X7_init 28 0 29 := Or.inl ⟨0, by decide +kernel, rfl, rfl⟩
theorem r_7_init_29 : RC M_X7_init 29 6 31 := ⟨⟨by decide, by decide⟩, Or.inr (Or.inl ⟨by decide +kernel, by decide, rfl⟩)⟩
theorem r_7_init_31 : RNA M_X7_init 31 0 33 := ⟨.int, by decide +kernel, rfl, rfl⟩
theorem r_7_init_33 : RP M_X7_init 33 7 6 36 := ⟨21, _, by decide +kernel, rfl, by decide, wd_f7_21, rfl, Or.inr ⟨rfl, rfl, rfl⟩, rfl⟩
theorem r_7_init_36 : RA M_X7_init 36 0 37 := Or.inl ⟨0, by decide +kernel, rfl, rfl⟩
theorem r_7_init_37 : RC M_X7_init 37 64 39 := ⟨⟨by decide, by decide⟩, Or.inr (Or.inl ⟨by decide +kernel, by decide, rfl⟩)⟩
theorem r_7_init_39 : RNA M_X7_init 39 2 41 := ⟨.boolean, by decide +kernel, rfl, rfl⟩
theorem r_7_init_41 : RP M_X7_init 41 7 7 44 := ⟨24, _, by decide +kernel, rfl, by decide, wd_f7_24, rfl, Or.inr ⟨rfl, rfl, rfl⟩, rfl⟩
theorem r_7_init_44 : RA M_X7_init 44 0 45 := Or.inl ⟨0, by decide +kernel, rfl, rfl⟩
theorem r_7_init_45 : RC M_X7_init 45 64 47 := ⟨⟨by decide, by decide⟩, Or.inr (Or.inl ⟨by decide +kernel, by decide, rfl⟩)⟩
theorem r_7_init_47 : RNA M_X7_init 47 0 49 := ⟨.int, by decide +kernel, rfl, rfl⟩
theorem r_7_init_49 : RP M_X7_init 49 7 8 52 := ⟨28, _, by decide +kernel, rfl, by decide, wd_f7_28, rfl, Or.inr ⟨rfl, rfl, rfl⟩, rfl⟩
theorem r_7_init_52 : RA M_X7_init 52 0 53 := Or.inl ⟨0, by decide +kernel, rfl, rfl⟩
theorem r_7_init_53 : RC M_X7_init 53 64 55 := ⟨⟨by decide, by decide⟩, Or.inr (Or.inl ⟨by decide +kernel, by decide, rfl⟩)⟩
theorem r_7_init_55 : RNA M_X7_init 55 0 57 := ⟨.int, by decide +kernel, rfl, rfl⟩
theorem r_7_init_57 : RP M_X7_init 57 7 9 60 := ⟨31, _, by decide +kernel, rfl, by decide, wd_f7_31, rfl, Or.inr ⟨rfl, rfl, rfl⟩, rfl⟩
theorem r_7_init_60 : RA M_X7_init 60 0 61 := Or.inl ⟨0, by decide +kernel, rfl, rfl⟩
theorem r_7_init_61 : RC M_X7_init 61 6 63 := ⟨⟨by decide, by decide⟩, Or.inr (Or.inl ⟨by decide +kernel, by decide, rfl⟩)⟩
theorem r_7_init_63 : RNA M_X7_init 63 0 65 := ⟨.int, by decide +kernel, rfl, rfl⟩
theorem r_7_init_65 : RP M_X7_init 65 7 11 68 := ⟨34, _, by decide +kernel, rfl, by decide, wd_f7_34, rfl, Or.inr ⟨rfl, rfl, rfl⟩, rfl⟩
theorem r_7_init_68 : RA M_X7_init 68 0 69 := Or.inl ⟨0, by decide +kernel, rfl, rfl⟩
theorem r_7_init_69 : RC M_X7_init 69 6 71 := ⟨⟨by decide, by decide⟩, Or.inr (Or.inl ⟨by decide +kernel, by decide, rfl⟩)⟩
theorem r_7_init_71 : RNA M_X7_init 71 0 73 := ⟨.int, by decide +kernel, rfl, rfl⟩
theorem r_7_init_73 : RP M_X7_init 73 7 12 76 := ⟨37, _, by decide +kernel, rfl, by decide, wd_f7_37, rfl, Or.inr ⟨rfl, rfl, rfl⟩, rfl⟩
theorem r_7_init_76 : RA M_X7_init 76 0 77 := Or.inl ⟨0, by decide +kernel, rfl, rfl⟩
theorem r_7_init_77 : RC M_X7_init 77 6 79 := ⟨⟨by decide, by decide⟩, Or.inr (Or.inl ⟨by decide +kernel, by decide, rfl⟩)⟩
theorem r_7_init_79 : RNA M_X7_init 79 0 81 := ⟨.int, by decide +kernel, rfl, rfl⟩
theorem r_7_init_81 : RP M_X7_init 81 7 14 84 := ⟨40, _, by decide +kernel, rfl, by decide, wd_f7_40, rfl, Or.inr ⟨rfl, rfl, rfl⟩, rfl⟩
theorem r_7_init_84 : RA M_X7_init 84 0 85 := Or.inl ⟨0, by decide +kernel, rfl, rfl⟩
theorem r_7_init_85 : RC M_X7_init 85 6 87 := ⟨⟨by decide, by decide⟩, Or.inr (Or.inl ⟨by decide +kernel, by decide, rfl⟩)⟩
theorem r_7_init_87 : RNA M_X7_init 87 0 89 := ⟨.int, by decide +kernel, rfl, rfl⟩
theorem r_7_init_89 : RP M_X7_init 89 7 15 92 := ⟨43, _, by decide +kernel, rfl, by decide, wd_f7_43, rfl, Or.inr ⟨rfl, rfl, rfl⟩, rfl⟩
theorem r_7_init_92 : RA M_X7_init 92 0 93 := Or.inl ⟨0, by decide +kernel, rfl, rfl⟩
theorem r_7_init_93 : RA M_X7_init 93 1 94 := Or.inl ⟨1, by decide +kernel, rfl, rfl⟩
theorem r_7_init_94 : RP M_X7_init 94 7 0 97 := ⟨46, _, by decide +kernel, rfl, by decide, wd_f7_46, rfl, Or.inr ⟨rfl, rfl, rfl⟩, rfl⟩
theorem r_7_init_97 : RA M_X7_init 97 0 98 := Or.inl ⟨0, by decide +kernel, rfl, rfl⟩
theorem r_7_init_98 : RA M_X7_init 98 2 99 := Or.inl ⟨2, by decide +kernel, rfl, rfl⟩
theorem r_7_init_99 : RP M_X7_init 99 7 1 102 := ⟨50, _, by decide +kernel, rfl, by decide, wd_f7_50, rfl, Or.inr ⟨rfl, rfl, rfl⟩, rfl⟩
theorem r_7_init_102 : RW M_X7_init 102 .return_ 103 1 := ⟨by decide +kernel, rfl⟩
theorem r_0_init_1 : ROI M_X0_init 1 4 := ⟨5, by decide +kernel, wd_m0_5, oin_ok.1, oin_ok.2, rfl⟩
theorem r_0_init_0 : RA M_X0_init 0 0 1 := Or.inl ⟨0, by decide +kernel, rfl, rfl⟩
theorem r_0_init_8 : RNM M_X0_init 8 0 12 := ⟨11, by decide +kernel, wd_cl0_11, rfl⟩
theorem r_0_init_4 : RA M_X0_init 4 0 5 := Or.inl ⟨0, by decide +kernel, rfl, rfl⟩
theorem r_0_init_5 : RC M_X0_init 5 2 6 := ⟨⟨by decide, by decide⟩, Or.inl ⟨by decide +kernel, rfl⟩⟩
theorem r_0_init_6 : RC M_X0_init 6 10 8 := ⟨⟨by decide, by decide⟩, Or.inr (Or.inl ⟨by decide +kernel, by decide, rfl⟩)⟩
theorem r_0_init_12 : RP M_X0_init 12 0 0 15 := ⟨13, _, by decide +kernel, rfl, by decide, wd_f0_13, rfl, Or.inr ⟨rfl, rfl, rfl⟩, rfl⟩
theorem r_0_init_15 : RA M_X0_init 15 0 16 := Or.inl ⟨0, by decide +kernel, rfl, rfl⟩
theorem r_0_init_16 : RC M_X0_init 16 2 17 := ⟨⟨by decide, by decide⟩, Or.inl ⟨by decide +kernel, rfl⟩⟩
theorem r_0_init_17 : RNA M_X0_init 17 0 19 := ⟨.int, by decide +kernel, rfl, rfl⟩
theorem r_0_init_19 : RP M_X0_init 19 0 1 22 := ⟨16, _, by decide +kernel, rfl, by decide, wd_f0_16, rfl, Or.inr ⟨rfl, rfl, rfl⟩, rfl⟩
theorem r_0_init_26 : RNM M_X0_init 26 0 30 := ⟨11, by decide +kernel, wd_cl0_11, rfl⟩
theorem r_0_init_22 : RA M_X0_init 22 0 23 := Or.inl ⟨0, by decide +kernel, rfl, rfl⟩
theorem r_0_init_23 : RC M_X0_init 23 2 24 := ⟨⟨by decide, by decide⟩, Or.inl ⟨by decide +kernel, rfl⟩⟩
theorem r_0_init_24 : RC M_X0_init 24 91 26 := ⟨⟨by decide, by decide⟩, Or.inr (Or.inl ⟨by decide +kernel, by decide, rfl⟩)⟩
theorem r_0_init_30 : RP M_X0_init 30 0 2 33 := ⟨20, _, by decide +kernel, rfl, by decide, wd_f0_20, rfl, Or.inr ⟨rfl, rfl, rfl⟩, rfl⟩
theorem r_0_init_37 : RNM M_X0_init 37 0 41 := ⟨11, by decide +kernel, wd_cl0_11, rfl⟩
theorem r_0_init_33 : RA M_X0_init 33 0 34 := Or.inl ⟨0, by decide +kernel, rfl, rfl⟩
theorem r_0_init_34 : RC M_X0_init 34 2 35 := ⟨⟨by decide, by decide⟩, Or.inl ⟨by decide +kernel, rfl⟩⟩
theorem r_0_init_35 : RC M_X0_init 35 91 37 := ⟨⟨by decide, by decide⟩, Or.inr (Or.inl ⟨by decide +kernel, by decide, rfl⟩)⟩
theorem r_0_init_41 : RP M_X0_init 41 0 3 44 := ⟨23, _, by decide +kernel, rfl, by decide, wd_f0_23, rfl, Or.inr ⟨rfl, rfl, rfl⟩, rfl⟩
theorem r_0_init_44 : RA M_X0_init 44 0 45 := Or.inl ⟨0, by decide +kernel, rfl, rfl⟩
theorem r_0_init_45 : RC M_X0_init 45 2 46 := ⟨⟨by decide, by decide⟩, Or.inl ⟨by decide +kernel, rfl⟩⟩
theorem r_0_init_46 : RNA M_X0_init 46 0 48 := ⟨.int, by decide +kernel, rfl, rfl⟩
theorem r_0_init_48 : RP M_X0_init 48 0 4 51 := ⟨26, _, by decide +kernel, rfl, by decide, wd_f0_26, rfl, Or.inr ⟨rfl, rfl, rfl⟩, rfl⟩
theorem r_0_init_51 : RA M_X0_init 51 0 52 := Or.inl ⟨0, by decide +kernel, rfl, rfl⟩
theorem r_0_init_52 : RC M_X0_init 52 182 55 := ⟨⟨by decide, by decide⟩, Or.inr (Or.inr (Or.inl ⟨by decide +kernel, by decide, rfl⟩))⟩
theorem r_0_init_55 : RNA M_X0_init 55 0 57 := ⟨.int, by decide +kernel, rfl, rfl⟩
theorem r_0_init_57 : RP M_X0_init 57 0 5 60 := ⟨29, _, by decide +kernel, rfl, by decide, wd_f0_29, rfl, Or.inr ⟨rfl, rfl, rfl⟩, rfl⟩
theorem r_0_init_60 : RA M_X0_init 60 0 61 := Or.inl ⟨0, by decide +kernel, rfl, rfl⟩
theorem r_0_init_61 : RC M_X0_init 61 518 64 := ⟨⟨by decide, by decide⟩, Or.inr (Or.inr (Or.inl ⟨by decide +kernel, by decide, rfl⟩))⟩
theorem r_0_init_64 : RNA M_X0_init 64 0 66 := ⟨.int, by decide +kernel, rfl, rfl⟩
theorem r_0_init_66 : RP M_X0_init 66 0 6 69 := ⟨32, _, by decide +kernel, rfl, by decide, wd_f0_32, rfl, Or.inr ⟨rfl, rfl, rfl⟩, rfl⟩
theorem r_0_init_69 : RA M_X0_init 69 0 70 := Or.inl ⟨0, by decide +kernel, rfl, rfl⟩
theorem r_0_init_70 : RC M_X0_init 70 180 73 := ⟨⟨by decide, by decide⟩, Or.inr (Or.inr (Or.inl ⟨by decide +kernel, by decide, rfl⟩))⟩
theorem r_0_init_73 : RNA M_X0_init 73 0 75 := ⟨.int, by decide +kernel, rfl, rfl⟩
theorem r_0_init_75 : RP M_X0_init 75 0 7 78 := ⟨35, _, by decide +kernel, rfl, by decide, wd_f0_35, rfl, Or.inr ⟨rfl, rfl, rfl⟩, rfl⟩
theorem r_0_init_78 : RW M_X0_init 78 .return_ 79 1 := ⟨by decide +kernel, rfl⟩
theorem r_6_init_1 : ROI M_X6_init 1 4 := ⟨3, by decide +kernel, wd_m6_3, oin_ok.1, oin_ok.2, rfl⟩
theorem r_6_init_0 : RA M_X6_init 0 0 1 := Or.inl ⟨0, by decide +kernel, rfl, rfl⟩
theorem r_6_init_4 : RA M_X6_init 4 0 5 := Or.inl ⟨0, by decide +kernel, rfl, rfl⟩
theorem r_6_init_5 : RC M_X6_init 5 6 7 := ⟨⟨by decide, by decide⟩, Or.inr (Or.inl ⟨by decide +kernel, by decide, rfl⟩)⟩
theorem r_6_init_7 : RNA M_X6_init 7 0 9 := ⟨.int, by decide +kernel, rfl, rfl⟩
theorem r_6_init_9 : RP M_X6_init 9 6 0 12 := ⟨11, _, by decide +kernel, rfl, by decide, wd_f6_11, rfl, Or.inr ⟨rfl, rfl, rfl⟩, rfl⟩
theorem r_6_init_12 : RA M_X6_init 12 0 13 := Or.inl ⟨0, by decide +kernel, rfl, rfl⟩
theorem r_6_init_13 : RC M_X6_init 13 6 15 := ⟨⟨by decide, by decide⟩, Or.inr (Or.inl ⟨by decide +kernel, by decide, rfl⟩)⟩
theorem r_6_init_15 : RNA M_X6_init 15 0 17 := ⟨.int, by decide +kernel, rfl, rfl⟩
theorem r_6_init_17 : RP M_X6_init 17 6 1 20 := ⟨15, _, by decide +kernel, rfl, by decide, wd_f6_15, rfl, Or.inr ⟨rfl, rfl, rfl⟩, rfl⟩
theorem r_6_init_20 : RA M_X6_init 20 0 21 := Or.inl ⟨0, by decide +kernel, rfl, rfl⟩
theorem r_6_init_21 : RC M_X6_init 21 4 22 := ⟨⟨by decide, by decide⟩, Or.inl ⟨by decide +kernel, rfl⟩⟩
theorem r_6_init_22 : RNA M_X6_init 22 0 24 := ⟨.int, by decide +kernel, rfl, rfl⟩
theorem r_6_init_24 : RP M_X6_init 24 6 3 27 := ⟨18, _, by decide +kernel, rfl, by decide, wd_f6_18, rfl, Or.inr ⟨rfl, rfl, rfl⟩, rfl⟩
theorem r_6_init_27 : RA M_X6_init 27 0 28 := Or.inl ⟨0, by decide +kernel, rfl, rfl⟩
theorem r_6_init_28 : RC M_X6_init 28 6 30 := ⟨⟨by decide, by decide⟩, Or.inr (Or.inl ⟨by decide +kernel, by decide, rfl⟩)⟩
theorem r_6_init_30 : RNA M_X6_init 30 0 32 := ⟨.int, by decide +kernel, rfl, rfl⟩
theorem r_6_init_32 : RP M_X6_init 32 6 5 35 := ⟨21, _, by decide +kernel, rfl, by decide, wd_f6_21, rfl, Or.inr ⟨rfl, rfl, rfl⟩, rfl⟩
theorem r_6_init_35 : RA M_X6_init 35 0 36 := Or.inl ⟨0, by decide +kernel, rfl, rfl⟩
theorem r_6_init_36 : RC M_X6_init 36 6 38 := ⟨⟨by decide, by decide⟩, Or.inr (Or.inl ⟨by decide +kernel, by decide, rfl⟩)⟩
theorem r_6_init_38 : RNA M_X6_init 38 0 40 := ⟨.int, by decide +kernel, rfl, rfl⟩
theorem r_6_init_40 : RP M_X6_init 40 6 7 43 := ⟨24, _, by decide +kernel, rfl, by decide, wd_f6_24, rfl, Or.inr ⟨rfl, rfl, rfl⟩, rfl⟩
theorem r_6_init_43 : RW M_X6_init 43 .return_ 44 1 := ⟨by decide +kernel, rfl⟩
def lc5 : List PR := ((((((((((([] ++ [(47, 0)]) ++ ((48, 0) :: rowsL 49 100)) ++ [(50, 0)]) ++ [(51, 0)]) ++ [(52, 0)]) ++ [(53, 0)]) ++ [(54, 0)]) ++ [(55, 0)]) ++ ((56, 0) :: rowsL 57 4)) ++ [(58, 0)]) ++ [(59, 0)])
set_option maxRecDepth 10000 in
theorem ctor_5 {l : Launch} {w : Wo} (hw : AlOk w) : Met l M_X5_init.1 (wsM M_X5_init) (bR 2 115 2236) (PcB w 60 5 [vR 5 0]) (QcB (frA w 5 60) (FcB w gr (60 + 115) ((5, 0) :: lc5))) 115 2236 (frA w 5 60) := by
  refine met_ctor (by decide +kernel) rfl (Nat.le_of_ble_eq_true rfl) ?_
  rw [st_W (G := ga) (N := 13) (by decide +kernel)]
  refine b_aload r_5_init_0 rfl (b_objInit r_5_init_1 (by decide) rfl ?_)
  refine b_itA (len := 100) (t := 0) (ck := 47) r_5_init_4 r_5_init_5 r_5_init_7 r_5_init_9 sh47 (by decide) (Nat.le_of_ble_eq_true rfl) (fun _ => rfl) (al_at hw (by decide) (by decide +kernel)) (fval_R fs_5_1 (by decide)) rfl (by decide) rfl ⟨Nat.le_of_ble_eq_true rfl, Nat.le_of_ble_eq_true rfl⟩ (kc' := 1) (ks' := 100) rfl rfl ?_
  refine b_itM (ck := 48) (rk := 49) (Nr := 100) (K := 5) (t := 0) (t' := 4) r_5_init_12 r_5_init_13 r_5_init_15 r_5_init_16 r_5_init_20 sh48 sh49 (by decide) (by decide) (by decide) rfl (Nat.le_of_ble_eq_true rfl) (Nat.le_of_ble_eq_true rfl) aS48 (fun _ _ => rfl) hw (by decide) (by decide +kernel) (fval_R fs_5_2 (by decide)) rfl (by decide) rfl ⟨Nat.le_of_ble_eq_true rfl, Nat.le_of_ble_eq_true rfl⟩ (kc' := 102) (ks' := 700) rfl rfl ?_
  refine b_itA (len := 100) (t := 0) (ck := 50) r_5_init_23 r_5_init_24 r_5_init_26 r_5_init_28 sh50 (by decide) (Nat.le_of_ble_eq_true rfl) (fun _ => rfl) (al_at hw (by decide) (by decide +kernel)) (fval_R fs_5_3 (by decide)) rfl (by decide) rfl ⟨Nat.le_of_ble_eq_true rfl, Nat.le_of_ble_eq_true rfl⟩ (kc' := 103) (ks' := 800) rfl rfl ?_
  refine b_itA (len := 100) (t := 0) (ck := 51) r_5_init_31 r_5_init_32 r_5_init_34 r_5_init_36 sh51 (by decide) (Nat.le_of_ble_eq_true rfl) (fun _ => rfl) (al_at hw (by decide) (by decide +kernel)) (fval_R fs_5_4 (by decide)) rfl (by decide) rfl ⟨Nat.le_of_ble_eq_true rfl, Nat.le_of_ble_eq_true rfl⟩ (kc' := 104) (ks' := 900) rfl rfl ?_
  refine b_itA (len := 100) (t := 0) (ck := 52) r_5_init_39 r_5_init_40 r_5_init_42 r_5_init_44 sh52 (by decide) (Nat.le_of_ble_eq_true rfl) (fun _ => rfl) (al_at hw (by decide) (by decide +kernel)) (fval_R fs_5_5 (by decide)) rfl (by decide) rfl ⟨Nat.le_of_ble_eq_true rfl, Nat.le_of_ble_eq_true rfl⟩ (kc' := 105) (ks' := 1000) rfl rfl ?_
  refine b_itA (len := 784) (t := 2) (ck := 53) r_5_init_47 r_5_init_48 r_5_init_51 r_5_init_53 sh53 (by decide) (Nat.le_of_ble_eq_true rfl) (fun _ => rfl) (al_at hw (by decide) (by decide +kernel)) (fval_R fs_5_6 (by decide)) rfl (by decide) rfl ⟨Nat.le_of_ble_eq_true rfl, Nat.le_of_ble_eq_true rfl⟩ (kc' := 106) (ks' := 1784) rfl rfl ?_
  refine b_itA (len := 100) (t := 0) (ck := 54) r_5_init_56 r_5_init_57 r_5_init_59 r_5_init_61 sh54 (by decide) (Nat.le_of_ble_eq_true rfl) (fun _ => rfl) (al_at hw (by decide) (by decide +kernel)) (fval_R fs_5_7 (by decide)) rfl (by decide) rfl ⟨Nat.le_of_ble_eq_true rfl, Nat.le_of_ble_eq_true rfl⟩ (kc' := 107) (ks' := 1884) rfl rfl ?_
  refine b_itA (len := 100) (t := 0) (ck := 55) r_5_init_64 r_5_init_65 r_5_init_67 r_5_init_69 sh55 (by decide) (Nat.le_of_ble_eq_true rfl) (fun _ => rfl) (al_at hw (by decide) (by decide +kernel)) (fval_R fs_5_8 (by decide)) rfl (by decide) rfl ⟨Nat.le_of_ble_eq_true rfl, Nat.le_of_ble_eq_true rfl⟩ (kc' := 108) (ks' := 1984) rfl rfl ?_
  refine b_itM (ck := 56) (rk := 57) (Nr := 4) (K := 60) (t := 3) (t' := 6) r_5_init_72 r_5_init_73 r_5_init_74 r_5_init_76 r_5_init_80 sh56 sh57 (by decide) (by decide) (by decide) rfl (Nat.le_of_ble_eq_true rfl) (Nat.le_of_ble_eq_true rfl) aS56 (fun _ _ => rfl) hw (by decide) (by decide +kernel) (fval_R fs_5_9 (by decide)) rfl (by decide) rfl ⟨Nat.le_of_ble_eq_true rfl, Nat.le_of_ble_eq_true rfl⟩ (kc' := 113) (ks' := 2228) rfl rfl ?_
  refine b_itA (len := 4) (t := 0) (ck := 58) r_5_init_83 r_5_init_84 r_5_init_85 r_5_init_87 sh58 (by decide) (Nat.le_of_ble_eq_true rfl) (fun _ => rfl) (al_at hw (by decide) (by decide +kernel)) (fval_R fs_5_10 (by decide)) rfl (by decide) rfl ⟨Nat.le_of_ble_eq_true rfl, Nat.le_of_ble_eq_true rfl⟩ (kc' := 114) (ks' := 2232) rfl rfl ?_
  refine b_itA (len := 4) (t := 0) (ck := 59) r_5_init_90 r_5_init_91 r_5_init_92 r_5_init_94 sh59 (by decide) (Nat.le_of_ble_eq_true rfl) (fun _ => rfl) (al_at hw (by decide) (by decide +kernel)) (fval_R fs_5_11 (by decide)) rfl (by decide) rfl ⟨Nat.le_of_ble_eq_true rfl, Nat.le_of_ble_eq_true rfl⟩ (kc' := 115) (ks' := 2236) rfl rfl ?_
  refine b_itI (v := (-1)) r_5_init_97 r_5_init_98 r_5_init_99 (fval_V fs_5_12 (by decide) rfl) rfl (by decide) rfl ?_
  have L130 : ∀ (nF : Nat) (i : Int), 0 ≤ i → i ≤ 4 → (4 - i).toNat < nF → BWg l w M_X5_init 2 115 2236 (frA w 5 60) (QcB (frA w 5 60) (FcB w gr (60 + 115) ((5, 0) :: lc5))) 60 115 2236 130 (wW w (uA (uA ga 53 0 (alF 27)) 58 0 (tsF i)) 5 13 [12, 11, 10, 9, 8, 7, 6, 5, 4, 3, 2, 1] lc5) [some (vR 5 0), some (vI i)] [] := by
    intro nF
    induction nF with
    | zero => intro i _ _ h; exact absurd h (Nat.not_lt_zero _)
    | succ nF ih =>
      intro i i0 i1 hM
      refine b_iload r_5_init_130 rfl (b_const r_5_init_131 (b_icmp_ge r_5_init_132 ⟨by omega, by omega⟩ ⟨by decide, by decide⟩ (fun h => ?_) (fun h => ?_)))
      · rw [show i = 4 by omega]
        exact b_ret r_5_init_148 rfl rfl rfl (fun H hz hP => ⟨by omega, fin_W sh5 (by decide +kernel) rfl hP⟩)
      · refine b_aload r_5_init_135 rfl (b_getW (v := vR 58 0) r_5_init_136 (by decide) (by decide) (fval_R fs_5_10 (by decide)) (b_iload r_5_init_139 rfl (b_const r_5_init_140 (b_ast0 (ck := 58) (len := 4) (q0 := 113) (i := i) (v := -1) ⟨.iastore, by decide +kernel, rfl, Or.inl ⟨rfl, sh58⟩⟩ ⟨by omega, by omega⟩ (Nat.le_of_ble_eq_true rfl) (by decide +kernel) (by decide +kernel) (by decide) ?_))))
        rw [sA_uA, ts_step i0]
        refine b_iinc r_5_init_142 rfl rfl rfl (b_goto r_5_init_145 ?_)
        exact ih (i + 1) (by omega) (by omega) (by omega)
  have L104 : ∀ (nF : Nat) (i : Int), 1 ≤ i → i ≤ 27 → (27 - i).toNat < nF → BWg l w M_X5_init 2 115 2236 (frA w 5 60) (QcB (frA w 5 60) (FcB w gr (60 + 115) ((5, 0) :: lc5))) 60 115 2236 104 (wW w (uA ga 53 0 (alF i)) 5 13 [12, 11, 10, 9, 8, 7, 6, 5, 4, 3, 2, 1] lc5) [some (vR 5 0), some (vI i)] [] := by
    intro nF
    induction nF with
    | zero => intro i _ _ h; exact absurd h (Nat.not_lt_zero _)
    | succ nF ih =>
      intro i i0 i1 hM
      refine b_iload r_5_init_104 rfl (b_const r_5_init_105 (b_icmp_gt r_5_init_107 ⟨by omega, by omega⟩ ⟨by decide, by decide⟩ (fun h => ?_) (fun h => ?_)))
      · rw [show i = 27 by omega]
        refine b_const r_5_init_128 (b_istore r_5_init_129 rfl rfl ?_)
        have h0 := L130 5 0 (by decide) (by decide) (by decide)
        rw [ts_0] at h0
        exact h0
      · refine b_aload r_5_init_110 rfl (b_getW (v := vR 53 0) r_5_init_111 (by decide) (by decide) (fval_R fs_5_6 (by decide)) (b_iload r_5_init_114 rfl (b_const r_5_init_115 (b_imul r_5_init_117 (b_iload r_5_init_118 rfl (b_iadd r_5_init_119 (b_const r_5_init_120 (b_ast0 (ck := 53) (len := 784) (q0 := 105) (i := i * 28 + i) (v := 1) ⟨.bastore, by decide +kernel, rfl, Or.inr ⟨rfl, sh53, Or.inr rfl⟩⟩ ⟨by omega, by omega⟩ (Nat.le_of_ble_eq_true rfl) (by decide +kernel) (by decide +kernel) (by decide) ?_))))))))
        rw [sA_uA, al_step i0]
        refine b_iinc r_5_init_122 rfl rfl rfl (b_goto r_5_init_125 ?_)
        exact ih (i + 1) (by omega) (by omega) (by omega)
  refine b_const r_5_init_102 (b_istore r_5_init_103 rfl rfl ?_)
  have h0 := L104 28 1 (by decide) (by decide) (by decide)
  rw [al_0] at h0
  exact h0
def lc10 : List PR := ((((((((([] ++ ((92, 0) :: rowsL 93 2)) ++ [(94, 0)]) ++ [(95, 0)]) ++ ((96, 0) :: rowsL 97 2)) ++ ((98, 0) :: rowsL 99 4)) ++ [(100, 0)]) ++ [(101, 0)]) ++ ((102, 0) :: rowsL 103 4)) ++ ((104, 0) :: rowsL 105 2))
set_option maxRecDepth 10000 in
theorem ctor_10 {l : Launch} {w : Wo} (hw : AlOk w) : Met l M_X10_init.1 (wsM M_X10_init) (bR 2 23 874) (PcB w 176 10 [vR 10 0, vR 1 0, vR 8 0]) (QcB (frA w 10 176) (FcB w gt (176 + 23) ((10, 0) :: lc10))) 23 874 (frA w 10 176) := by
  refine met_ctor (by decide +kernel) rfl (Nat.le_of_ble_eq_true rfl) ?_
  rw [st_W (G := gr) (N := 12) (by decide +kernel)]
  refine b_aload r_10_init_0 rfl (b_objInit r_10_init_1 (by decide) rfl ?_)
  refine b_itM (ck := 92) (rk := 93) (Nr := 2) (K := 7) (t := 0) (t' := 4) r_10_init_4 r_10_init_5 r_10_init_6 r_10_init_8 r_10_init_12 sh92 sh93 (by decide) (by decide) (by decide) rfl (Nat.le_of_ble_eq_true rfl) (Nat.le_of_ble_eq_true rfl) aS92 (fun _ _ => rfl) hw (by decide) (by decide +kernel) (fval_R fs_10_2 (by decide)) rfl (by decide) rfl ⟨Nat.le_of_ble_eq_true rfl, Nat.le_of_ble_eq_true rfl⟩ (kc' := 3) (ks' := 16) rfl rfl ?_
  refine b_itA (len := 2) (t := 0) (ck := 94) r_10_init_15 r_10_init_16 r_10_init_17 r_10_init_19 sh94 (by decide) (Nat.le_of_ble_eq_true rfl) (fun _ => rfl) (al_at hw (by decide) (by decide +kernel)) (fval_R fs_10_3 (by decide)) rfl (by decide) rfl ⟨Nat.le_of_ble_eq_true rfl, Nat.le_of_ble_eq_true rfl⟩ (kc' := 4) (ks' := 18) rfl rfl ?_
  refine b_aload r_10_init_22 rfl (b_const r_10_init_23 (b_newarr (len := 2) (t := 0) (ck := 95) (G := gr) r_10_init_24 sh95 (by decide) (Nat.le_of_ble_eq_true rfl) (fun _ => rfl) (al_at hw (by decide) (by decide +kernel)) ⟨Nat.le_of_ble_eq_true rfl, Nat.le_of_ble_eq_true rfl⟩ (kc' := 5) (ks' := 20) rfl rfl ?_))
  rw [show ∀ dn Lx, wW w gr 10 12 dn Lx ++ [eA w gr (95, 0)] = wW w gr 10 12 dn (Lx ++ [(95, 0)]) from fun dn Lx => wW_app (L2 := [(95, 0)])]
  refine b_dup r_10_init_26 (b_const r_10_init_27 (b_const r_10_init_28 (b_ast0 (ck := 95) (len := 2) (q0 := 4) (i := 0) (v := (-1)) ⟨.iastore, by decide +kernel, rfl, Or.inl ⟨rfl, sh95⟩⟩ ⟨by decide, by decide⟩ (Nat.le_of_ble_eq_true rfl) (by decide +kernel) (by decide +kernel) (by decide) ?_)))
  refine b_dup r_10_init_30 (b_const r_10_init_31 (b_const r_10_init_32 (b_ast0 (ck := 95) (len := 2) (q0 := 4) (i := 1) (v := (-1)) ⟨.iastore, by decide +kernel, rfl, Or.inl ⟨rfl, sh95⟩⟩ ⟨by decide, by decide⟩ (Nat.le_of_ble_eq_true rfl) (by decide +kernel) (by decide +kernel) (by decide) ?_)))
  refine b_putW r_10_init_34 (rty_ok rfl) (by decide) (fval_R fs_10_4 (by decide)) ?_
  refine b_itI (v := 10) r_10_init_37 r_10_init_38 r_10_init_40 (fval_V fs_10_5 (by decide) rfl) rfl (by decide) rfl ?_
  refine b_itM (ck := 96) (rk := 97) (Nr := 2) (K := 7) (t := 0) (t' := 4) r_10_init_43 r_10_init_44 r_10_init_45 r_10_init_47 r_10_init_51 sh96 sh97 (by decide) (by decide) (by decide) rfl (Nat.le_of_ble_eq_true rfl) (Nat.le_of_ble_eq_true rfl) aS96 (fun _ _ => rfl) hw (by decide) (by decide +kernel) (fval_R fs_10_6 (by decide)) rfl (by decide) rfl ⟨Nat.le_of_ble_eq_true rfl, Nat.le_of_ble_eq_true rfl⟩ (kc' := 8) (ks' := 36) rfl rfl ?_
  refine b_itM (ck := 98) (rk := 99) (Nr := 4) (K := 7) (t := 0) (t' := 4) r_10_init_54 r_10_init_55 r_10_init_56 r_10_init_58 r_10_init_62 sh98 sh99 (by decide) (by decide) (by decide) rfl (Nat.le_of_ble_eq_true rfl) (Nat.le_of_ble_eq_true rfl) aS98 (fun _ _ => rfl) hw (by decide) (by decide +kernel) (fval_R fs_10_7 (by decide)) rfl (by decide) rfl ⟨Nat.le_of_ble_eq_true rfl, Nat.le_of_ble_eq_true rfl⟩ (kc' := 13) (ks' := 68) rfl rfl ?_
  refine b_itA (len := 16) (t := 0) (ck := 100) r_10_init_65 r_10_init_66 r_10_init_68 r_10_init_70 sh100 (by decide) (Nat.le_of_ble_eq_true rfl) (fun _ => rfl) (al_at hw (by decide) (by decide +kernel)) (fval_R fs_10_8 (by decide)) rfl (by decide) rfl ⟨Nat.le_of_ble_eq_true rfl, Nat.le_of_ble_eq_true rfl⟩ (kc' := 14) (ks' := 84) rfl rfl ?_
  refine b_itA (len := 16) (t := 0) (ck := 101) r_10_init_73 r_10_init_74 r_10_init_76 r_10_init_78 sh101 (by decide) (Nat.le_of_ble_eq_true rfl) (fun _ => rfl) (al_at hw (by decide) (by decide +kernel)) (fval_R fs_10_9 (by decide)) rfl (by decide) rfl ⟨Nat.le_of_ble_eq_true rfl, Nat.le_of_ble_eq_true rfl⟩ (kc' := 15) (ks' := 100) rfl rfl ?_
  refine b_itM (ck := 102) (rk := 103) (Nr := 4) (K := 128) (t := 0) (t' := 4) r_10_init_81 r_10_init_82 r_10_init_83 r_10_init_86 r_10_init_90 sh102 sh103 (by decide) (by decide) (by decide) rfl (Nat.le_of_ble_eq_true rfl) (Nat.le_of_ble_eq_true rfl) aS102 (fun _ _ => rfl) hw (by decide) (by decide +kernel) (fval_R fs_10_10 (by decide)) rfl (by decide) rfl ⟨Nat.le_of_ble_eq_true rfl, Nat.le_of_ble_eq_true rfl⟩ (kc' := 20) (ks' := 616) rfl rfl ?_
  refine b_itM (ck := 104) (rk := 105) (Nr := 2) (K := 128) (t := 0) (t' := 4) r_10_init_93 r_10_init_94 r_10_init_95 r_10_init_98 r_10_init_102 sh104 sh105 (by decide) (by decide) (by decide) rfl (Nat.le_of_ble_eq_true rfl) (Nat.le_of_ble_eq_true rfl) aS104 (fun _ _ => rfl) hw (by decide) (by decide +kernel) (fval_R fs_10_11 (by decide)) rfl (by decide) rfl ⟨Nat.le_of_ble_eq_true rfl, Nat.le_of_ble_eq_true rfl⟩ (kc' := 23) (ks' := 874) rfl rfl ?_
  refine b_itR (cj := 1) (j := 1) r_10_init_105 r_10_init_106 r_10_init_107 (fval_R fs_10_0 (by decide)) rfl (by decide) rfl rfl ?_
  refine b_itR (cj := 8) (j := 2) r_10_init_110 r_10_init_111 r_10_init_112 (fval_R fs_10_1 (by decide)) rfl (by decide) rfl rfl ?_
  exact b_ret r_10_init_115 rfl rfl rfl (fun H hz hP => ⟨by omega, fin_W sh10 (by decide +kernel) rfl hP⟩)
def lc7 : List PR := ((((((((((([] ++ [(65, 0)]) ++ [(66, 0)]) ++ [(67, 0)]) ++ [(68, 0)]) ++ [(69, 0)]) ++ [(70, 0)]) ++ [(71, 0)]) ++ [(72, 0)]) ++ [(73, 0)]) ++ [(74, 0)]) ++ [(75, 0)])
set_option maxRecDepth 10000 in
theorem ctor_7 {l : Launch} {w : Wo} (hw : AlOk w) : Met l M_X7_init.1 (wsM M_X7_init) (bR 2 11 240) (PcB w 200 7 [vR 7 0, vR 2 0, vR 1 0]) (QcB (frA w 7 200) (FcB w gt (200 + 11) ((7, 0) :: lc7))) 11 240 (frA w 7 200) := by
  refine met_ctor (by decide +kernel) rfl (Nat.le_of_ble_eq_true rfl) ?_
  rw [st_W (G := gt) (N := 17) (by decide +kernel)]
  refine b_aload r_7_init_0 rfl (b_objInit r_7_init_1 (by decide) rfl ?_)
  refine b_itA (len := 6) (t := 0) (ck := 65) r_7_init_4 r_7_init_5 r_7_init_7 r_7_init_9 sh65 (by decide) (Nat.le_of_ble_eq_true rfl) (fun _ => rfl) (al_at hw (by decide) (by decide +kernel)) (fval_R fs_7_3 (by decide)) rfl (by decide) rfl ⟨Nat.le_of_ble_eq_true rfl, Nat.le_of_ble_eq_true rfl⟩ (kc' := 1) (ks' := 6) rfl rfl ?_
  refine b_itA (len := 6) (t := 0) (ck := 66) r_7_init_12 r_7_init_13 r_7_init_15 r_7_init_17 sh66 (by decide) (Nat.le_of_ble_eq_true rfl) (fun _ => rfl) (al_at hw (by decide) (by decide +kernel)) (fval_R fs_7_4 (by decide)) rfl (by decide) rfl ⟨Nat.le_of_ble_eq_true rfl, Nat.le_of_ble_eq_true rfl⟩ (kc' := 2) (ks' := 12) rfl rfl ?_
  refine b_itA (len := 6) (t := 0) (ck := 67) r_7_init_20 r_7_init_21 r_7_init_23 r_7_init_25 sh67 (by decide) (Nat.le_of_ble_eq_true rfl) (fun _ => rfl) (al_at hw (by decide) (by decide +kernel)) (fval_R fs_7_5 (by decide)) rfl (by decide) rfl ⟨Nat.le_of_ble_eq_true rfl, Nat.le_of_ble_eq_true rfl⟩ (kc' := 3) (ks' := 18) rfl rfl ?_
  refine b_itA (len := 6) (t := 0) (ck := 68) r_7_init_28 r_7_init_29 r_7_init_31 r_7_init_33 sh68 (by decide) (Nat.le_of_ble_eq_true rfl) (fun _ => rfl) (al_at hw (by decide) (by decide +kernel)) (fval_R fs_7_6 (by decide)) rfl (by decide) rfl ⟨Nat.le_of_ble_eq_true rfl, Nat.le_of_ble_eq_true rfl⟩ (kc' := 4) (ks' := 24) rfl rfl ?_
  refine b_itA (len := 64) (t := 2) (ck := 69) r_7_init_36 r_7_init_37 r_7_init_39 r_7_init_41 sh69 (by decide) (Nat.le_of_ble_eq_true rfl) (fun _ => rfl) (al_at hw (by decide) (by decide +kernel)) (fval_R fs_7_7 (by decide)) rfl (by decide) rfl ⟨Nat.le_of_ble_eq_true rfl, Nat.le_of_ble_eq_true rfl⟩ (kc' := 5) (ks' := 88) rfl rfl ?_
  refine b_itA (len := 64) (t := 0) (ck := 70) r_7_init_44 r_7_init_45 r_7_init_47 r_7_init_49 sh70 (by decide) (Nat.le_of_ble_eq_true rfl) (fun _ => rfl) (al_at hw (by decide) (by decide +kernel)) (fval_R fs_7_8 (by decide)) rfl (by decide) rfl ⟨Nat.le_of_ble_eq_true rfl, Nat.le_of_ble_eq_true rfl⟩ (kc' := 6) (ks' := 152) rfl rfl ?_
  refine b_itA (len := 64) (t := 0) (ck := 71) r_7_init_52 r_7_init_53 r_7_init_55 r_7_init_57 sh71 (by decide) (Nat.le_of_ble_eq_true rfl) (fun _ => rfl) (al_at hw (by decide) (by decide +kernel)) (fval_R fs_7_9 (by decide)) rfl (by decide) rfl ⟨Nat.le_of_ble_eq_true rfl, Nat.le_of_ble_eq_true rfl⟩ (kc' := 7) (ks' := 216) rfl rfl ?_
  refine b_itA (len := 6) (t := 0) (ck := 72) r_7_init_60 r_7_init_61 r_7_init_63 r_7_init_65 sh72 (by decide) (Nat.le_of_ble_eq_true rfl) (fun _ => rfl) (al_at hw (by decide) (by decide +kernel)) (fval_R fs_7_11 (by decide)) rfl (by decide) rfl ⟨Nat.le_of_ble_eq_true rfl, Nat.le_of_ble_eq_true rfl⟩ (kc' := 8) (ks' := 222) rfl rfl ?_
  refine b_itA (len := 6) (t := 0) (ck := 73) r_7_init_68 r_7_init_69 r_7_init_71 r_7_init_73 sh73 (by decide) (Nat.le_of_ble_eq_true rfl) (fun _ => rfl) (al_at hw (by decide) (by decide +kernel)) (fval_R fs_7_12 (by decide)) rfl (by decide) rfl ⟨Nat.le_of_ble_eq_true rfl, Nat.le_of_ble_eq_true rfl⟩ (kc' := 9) (ks' := 228) rfl rfl ?_
  refine b_itA (len := 6) (t := 0) (ck := 74) r_7_init_76 r_7_init_77 r_7_init_79 r_7_init_81 sh74 (by decide) (Nat.le_of_ble_eq_true rfl) (fun _ => rfl) (al_at hw (by decide) (by decide +kernel)) (fval_R fs_7_14 (by decide)) rfl (by decide) rfl ⟨Nat.le_of_ble_eq_true rfl, Nat.le_of_ble_eq_true rfl⟩ (kc' := 10) (ks' := 234) rfl rfl ?_
  refine b_itA (len := 6) (t := 0) (ck := 75) r_7_init_84 r_7_init_85 r_7_init_87 r_7_init_89 sh75 (by decide) (Nat.le_of_ble_eq_true rfl) (fun _ => rfl) (al_at hw (by decide) (by decide +kernel)) (fval_R fs_7_15 (by decide)) rfl (by decide) rfl ⟨Nat.le_of_ble_eq_true rfl, Nat.le_of_ble_eq_true rfl⟩ (kc' := 11) (ks' := 240) rfl rfl ?_
  refine b_itR (cj := 2) (j := 1) r_7_init_92 r_7_init_93 r_7_init_94 (fval_R fs_7_0 (by decide)) rfl (by decide) rfl rfl ?_
  refine b_itR (cj := 1) (j := 2) r_7_init_97 r_7_init_98 r_7_init_99 (fval_R fs_7_1 (by decide)) rfl (by decide) rfl rfl ?_
  exact b_ret r_7_init_102 rfl rfl rfl (fun H hz hP => ⟨by omega, fin_W sh7 (by decide +kernel) rfl hP⟩)
def lc0 : List PR := (((((((([] ++ ((20, 0) :: rowsL 21 2)) ++ [(22, 0)]) ++ ((23, 0) :: rowsL 24 2)) ++ ((25, 0) :: rowsL 26 2)) ++ [(27, 0)]) ++ [(28, 0)]) ++ [(107, 0)]) ++ [(29, 0)])
set_option maxRecDepth 10000 in
theorem ctor_0 {l : Launch} {w : Wo} (hw : AlOk w) : Met l M_X0_init.1 (wsM M_X0_init) (bR 2 14 1274) (PcB w 212 0 [vR 0 0]) (QcB (frA w 0 212) (FcB w gt (212 + 14) ((0, 0) :: lc0))) 14 1274 (frA w 0 212) := by
  refine met_ctor (by decide +kernel) rfl (Nat.le_of_ble_eq_true rfl) ?_
  rw [st_W (G := gt) (N := 9) (by decide +kernel)]
  refine b_aload r_0_init_0 rfl (b_objInit r_0_init_1 (by decide) rfl ?_)
  refine b_itM (ck := 20) (rk := 21) (Nr := 2) (K := 10) (t := 0) (t' := 4) r_0_init_4 r_0_init_5 r_0_init_6 r_0_init_8 r_0_init_12 sh20 sh21 (by decide) (by decide) (by decide) rfl (Nat.le_of_ble_eq_true rfl) (Nat.le_of_ble_eq_true rfl) aS20 (fun _ _ => rfl) hw (by decide) (by decide +kernel) (fval_R fs_0_0 (by decide)) rfl (by decide) rfl ⟨Nat.le_of_ble_eq_true rfl, Nat.le_of_ble_eq_true rfl⟩ (kc' := 3) (ks' := 22) rfl rfl ?_
  refine b_itA (len := 2) (t := 0) (ck := 22) r_0_init_15 r_0_init_16 r_0_init_17 r_0_init_19 sh22 (by decide) (Nat.le_of_ble_eq_true rfl) (fun _ => rfl) (al_at hw (by decide) (by decide +kernel)) (fval_R fs_0_1 (by decide)) rfl (by decide) rfl ⟨Nat.le_of_ble_eq_true rfl, Nat.le_of_ble_eq_true rfl⟩ (kc' := 4) (ks' := 24) rfl rfl ?_
  refine b_itM (ck := 23) (rk := 24) (Nr := 2) (K := 91) (t := 0) (t' := 4) r_0_init_22 r_0_init_23 r_0_init_24 r_0_init_26 r_0_init_30 sh23 sh24 (by decide) (by decide) (by decide) rfl (Nat.le_of_ble_eq_true rfl) (Nat.le_of_ble_eq_true rfl) aS23 (fun _ _ => rfl) hw (by decide) (by decide +kernel) (fval_R fs_0_2 (by decide)) rfl (by decide) rfl ⟨Nat.le_of_ble_eq_true rfl, Nat.le_of_ble_eq_true rfl⟩ (kc' := 7) (ks' := 208) rfl rfl ?_
  refine b_itM (ck := 25) (rk := 26) (Nr := 2) (K := 91) (t := 0) (t' := 4) r_0_init_33 r_0_init_34 r_0_init_35 r_0_init_37 r_0_init_41 sh25 sh26 (by decide) (by decide) (by decide) rfl (Nat.le_of_ble_eq_true rfl) (Nat.le_of_ble_eq_true rfl) aS25 (fun _ _ => rfl) hw (by decide) (by decide +kernel) (fval_R fs_0_3 (by decide)) rfl (by decide) rfl ⟨Nat.le_of_ble_eq_true rfl, Nat.le_of_ble_eq_true rfl⟩ (kc' := 10) (ks' := 392) rfl rfl ?_
  refine b_itA (len := 2) (t := 0) (ck := 27) r_0_init_44 r_0_init_45 r_0_init_46 r_0_init_48 sh27 (by decide) (Nat.le_of_ble_eq_true rfl) (fun _ => rfl) (al_at hw (by decide) (by decide +kernel)) (fval_R fs_0_4 (by decide)) rfl (by decide) rfl ⟨Nat.le_of_ble_eq_true rfl, Nat.le_of_ble_eq_true rfl⟩ (kc' := 11) (ks' := 394) rfl rfl ?_
  refine b_itA (len := 182) (t := 0) (ck := 28) r_0_init_51 r_0_init_52 r_0_init_55 r_0_init_57 sh28 (by decide) (Nat.le_of_ble_eq_true rfl) (fun _ => rfl) (al_at hw (by decide) (by decide +kernel)) (fval_R fs_0_5 (by decide)) rfl (by decide) rfl ⟨Nat.le_of_ble_eq_true rfl, Nat.le_of_ble_eq_true rfl⟩ (kc' := 12) (ks' := 576) rfl rfl ?_
  refine b_itA (len := 518) (t := 0) (ck := 107) r_0_init_60 r_0_init_61 r_0_init_64 r_0_init_66 sh107 (by decide) (Nat.le_of_ble_eq_true rfl) (fun _ => rfl) (al_at hw (by decide) (by decide +kernel)) (fval_R fs_0_6 (by decide)) rfl (by decide) rfl ⟨Nat.le_of_ble_eq_true rfl, Nat.le_of_ble_eq_true rfl⟩ (kc' := 13) (ks' := 1094) rfl rfl ?_
  refine b_itA (len := 180) (t := 0) (ck := 29) r_0_init_69 r_0_init_70 r_0_init_73 r_0_init_75 sh29 (by decide) (Nat.le_of_ble_eq_true rfl) (fun _ => rfl) (al_at hw (by decide) (by decide +kernel)) (fval_R fs_0_7 (by decide)) rfl (by decide) rfl ⟨Nat.le_of_ble_eq_true rfl, Nat.le_of_ble_eq_true rfl⟩ (kc' := 14) (ks' := 1274) rfl rfl ?_
  exact b_ret r_0_init_78 rfl rfl rfl (fun H hz hP => ⟨by omega, fin_W sh0 (by decide +kernel) rfl hP⟩)
def lc6 : List PR := ((((([] ++ [(60, 0)]) ++ [(61, 0)]) ++ [(62, 0)]) ++ [(63, 0)]) ++ [(64, 0)])
set_option maxRecDepth 10000 in
theorem ctor_6 {l : Launch} {w : Wo} (hw : AlOk w) : Met l M_X6_init.1 (wsM M_X6_init) (bR 2 5 28) (PcB w 227 6 [vR 6 0]) (QcB (frA w 6 227) (FcB w gt (227 + 5) ((6, 0) :: lc6))) 5 28 (frA w 6 227) := by
  refine met_ctor (by decide +kernel) rfl (Nat.le_of_ble_eq_true rfl) ?_
  rw [st_W (G := gt) (N := 9) (by decide +kernel)]
  refine b_aload r_6_init_0 rfl (b_objInit r_6_init_1 (by decide) rfl ?_)
  refine b_itA (len := 6) (t := 0) (ck := 60) r_6_init_4 r_6_init_5 r_6_init_7 r_6_init_9 sh60 (by decide) (Nat.le_of_ble_eq_true rfl) (fun _ => rfl) (al_at hw (by decide) (by decide +kernel)) (fval_R fs_6_0 (by decide)) rfl (by decide) rfl ⟨Nat.le_of_ble_eq_true rfl, Nat.le_of_ble_eq_true rfl⟩ (kc' := 1) (ks' := 6) rfl rfl ?_
  refine b_itA (len := 6) (t := 0) (ck := 61) r_6_init_12 r_6_init_13 r_6_init_15 r_6_init_17 sh61 (by decide) (Nat.le_of_ble_eq_true rfl) (fun _ => rfl) (al_at hw (by decide) (by decide +kernel)) (fval_R fs_6_1 (by decide)) rfl (by decide) rfl ⟨Nat.le_of_ble_eq_true rfl, Nat.le_of_ble_eq_true rfl⟩ (kc' := 2) (ks' := 12) rfl rfl ?_
  refine b_itA (len := 4) (t := 0) (ck := 62) r_6_init_20 r_6_init_21 r_6_init_22 r_6_init_24 sh62 (by decide) (Nat.le_of_ble_eq_true rfl) (fun _ => rfl) (al_at hw (by decide) (by decide +kernel)) (fval_R fs_6_3 (by decide)) rfl (by decide) rfl ⟨Nat.le_of_ble_eq_true rfl, Nat.le_of_ble_eq_true rfl⟩ (kc' := 3) (ks' := 16) rfl rfl ?_
  refine b_itA (len := 6) (t := 0) (ck := 63) r_6_init_27 r_6_init_28 r_6_init_30 r_6_init_32 sh63 (by decide) (Nat.le_of_ble_eq_true rfl) (fun _ => rfl) (al_at hw (by decide) (by decide +kernel)) (fval_R fs_6_5 (by decide)) rfl (by decide) rfl ⟨Nat.le_of_ble_eq_true rfl, Nat.le_of_ble_eq_true rfl⟩ (kc' := 4) (ks' := 22) rfl rfl ?_
  refine b_itA (len := 6) (t := 0) (ck := 64) r_6_init_35 r_6_init_36 r_6_init_38 r_6_init_40 sh64 (by decide) (Nat.le_of_ble_eq_true rfl) (fun _ => rfl) (al_at hw (by decide) (by decide +kernel)) (fval_R fs_6_7 (by decide)) rfl (by decide) rfl ⟨Nat.le_of_ble_eq_true rfl, Nat.le_of_ble_eq_true rfl⟩ (kc' := 5) (ks' := 28) rfl rfl ?_
  exact b_ret r_6_init_43 rfl rfl rfl (fun H hz hP => ⟨by omega, fin_W sh6 (by decide +kernel) rfl hP⟩)
