theorem wd_m2_3 : Cond.methodLink "NameRolls$Land" 3 Lib.objectInit ∈ UW := UW1_at 35 (by decide +kernel) rfl
theorem wd_m1_3 : Cond.methodLink "NameRolls$Crowd" 3 Lib.objectInit ∈ UW := UW1_at 65 (by decide +kernel) rfl
theorem wd_m9_3 : Cond.methodLink "NameRolls$Tidings" 3 Lib.objectInit ∈ UW := UW1_at 135 (by decide +kernel) rfl
theorem wd_m4_3 : Cond.methodLink "NameRolls$Reader" 3 Lib.objectInit ∈ UW := UW1_at 193 (by decide +kernel) rfl
theorem wd_m8_3 : Cond.methodLink "NameRolls$Texts" 3 Lib.objectInit ∈ UW := UW1_at 187 (by decide +kernel) rfl
theorem wd_cl8_9 : Cond.classLink "NameRolls$Texts" 9 RX4 ∈ UW := UW1_at 188 (by decide +kernel) rfl
theorem wd_inst4 : Cond.instantiable RX4 6 ∈ UW := UW1_at 189 (by decide +kernel) rfl
theorem wd_ini4 : Cond.initialized RX4 ∈ UW := UW1_at 6 (by decide +kernel) rfl
theorem wd_cl8_22 : Cond.classLink "NameRolls$Texts" 22 "[[B" ∈ UW := UW1_at 217 (by decide +kernel) rfl
theorem r_2_init_1 : ROI M_X2_init 1 4 := ⟨3, by decide +kernel, wd_m2_3, oin_ok.1, oin_ok.2, rfl⟩
theorem r_2_init_0 : RA M_X2_init 0 0 1 := Or.inl ⟨0, by decide +kernel, rfl, rfl⟩
theorem r_2_init_4 : RA M_X2_init 4 0 5 := Or.inl ⟨0, by decide +kernel, rfl, rfl⟩
theorem r_2_init_5 : RC M_X2_init 5 16 7 := ⟨⟨by decide, by decide⟩, Or.inr (Or.inl ⟨by decide +kernel, by decide, rfl⟩)⟩
theorem r_2_init_7 : RNA M_X2_init 7 0 9 := ⟨.int, by decide +kernel, rfl, rfl⟩
theorem r_2_init_9 : RP M_X2_init 9 2 0 12 := ⟨11, _, by decide +kernel, rfl, by decide, wd_f2_11, rfl, Or.inr ⟨rfl, rfl, rfl⟩, rfl⟩
theorem r_2_init_12 : RA M_X2_init 12 0 13 := Or.inl ⟨0, by decide +kernel, rfl, rfl⟩
theorem r_2_init_13 : RC M_X2_init 13 16 15 := ⟨⟨by decide, by decide⟩, Or.inr (Or.inl ⟨by decide +kernel, by decide, rfl⟩)⟩
theorem r_2_init_15 : RNA M_X2_init 15 0 17 := ⟨.int, by decide +kernel, rfl, rfl⟩
theorem r_2_init_17 : RP M_X2_init 17 2 1 20 := ⟨15, _, by decide +kernel, rfl, by decide, wd_f2_15, rfl, Or.inr ⟨rfl, rfl, rfl⟩, rfl⟩
theorem r_2_init_20 : RA M_X2_init 20 0 21 := Or.inl ⟨0, by decide +kernel, rfl, rfl⟩
theorem r_2_init_21 : RC M_X2_init 21 324 24 := ⟨⟨by decide, by decide⟩, Or.inr (Or.inr (Or.inl ⟨by decide +kernel, by decide, rfl⟩))⟩
theorem r_2_init_24 : RNA M_X2_init 24 0 26 := ⟨.int, by decide +kernel, rfl, rfl⟩
theorem r_2_init_26 : RP M_X2_init 26 2 3 29 := ⟨18, _, by decide +kernel, rfl, by decide, wd_f2_18, rfl, Or.inr ⟨rfl, rfl, rfl⟩, rfl⟩
theorem r_2_init_29 : RA M_X2_init 29 0 30 := Or.inl ⟨0, by decide +kernel, rfl, rfl⟩
theorem r_2_init_30 : RC M_X2_init 30 18 32 := ⟨⟨by decide, by decide⟩, Or.inr (Or.inl ⟨by decide +kernel, by decide, rfl⟩)⟩
theorem r_2_init_32 : RNA M_X2_init 32 0 34 := ⟨.int, by decide +kernel, rfl, rfl⟩
theorem r_2_init_34 : RP M_X2_init 34 2 4 37 := ⟨21, _, by decide +kernel, rfl, by decide, wd_f2_21, rfl, Or.inr ⟨rfl, rfl, rfl⟩, rfl⟩
theorem r_2_init_37 : RA M_X2_init 37 0 38 := Or.inl ⟨0, by decide +kernel, rfl, rfl⟩
theorem r_2_init_38 : RC M_X2_init 38 18 40 := ⟨⟨by decide, by decide⟩, Or.inr (Or.inl ⟨by decide +kernel, by decide, rfl⟩)⟩
theorem r_2_init_40 : RNA M_X2_init 40 2 42 := ⟨.boolean, by decide +kernel, rfl, rfl⟩
theorem r_2_init_42 : RP M_X2_init 42 2 5 45 := ⟨24, _, by decide +kernel, rfl, by decide, wd_f2_24, rfl, Or.inr ⟨rfl, rfl, rfl⟩, rfl⟩
theorem r_2_init_45 : RW M_X2_init 45 .return_ 46 1 := ⟨by decide +kernel, rfl⟩
theorem r_1_init_1 : ROI M_X1_init 1 4 := ⟨3, by decide +kernel, wd_m1_3, oin_ok.1, oin_ok.2, rfl⟩
theorem r_1_init_0 : RA M_X1_init 0 0 1 := Or.inl ⟨0, by decide +kernel, rfl, rfl⟩
theorem r_1_init_8 : RNP M_X1_init 8 11 := ⟨11, by decide +kernel, wd_cl1_11, rfl⟩
theorem r_1_init_4 : RA M_X1_init 4 0 5 := Or.inl ⟨0, by decide +kernel, rfl, rfl⟩
theorem r_1_init_5 : RC M_X1_init 5 150 8 := ⟨⟨by decide, by decide⟩, Or.inr (Or.inr (Or.inl ⟨by decide +kernel, by decide, rfl⟩))⟩
theorem r_1_init_11 : RP M_X1_init 11 1 0 14 := ⟨13, _, by decide +kernel, rfl, by decide, wd_f1_13, rfl, Or.inr ⟨rfl, rfl, rfl⟩, rfl⟩
theorem r_1_init_14 : RA M_X1_init 14 0 15 := Or.inl ⟨0, by decide +kernel, rfl, rfl⟩
theorem r_1_init_15 : RC M_X1_init 15 10 17 := ⟨⟨by decide, by decide⟩, Or.inr (Or.inl ⟨by decide +kernel, by decide, rfl⟩)⟩
theorem r_1_init_17 : RNA M_X1_init 17 0 19 := ⟨.int, by decide +kernel, rfl, rfl⟩
theorem r_1_init_19 : RP M_X1_init 19 1 5 22 := ⟨17, _, by decide +kernel, rfl, by decide, wd_f1_17, rfl, Or.inr ⟨rfl, rfl, rfl⟩, rfl⟩
theorem r_1_init_22 : RA M_X1_init 22 0 23 := Or.inl ⟨0, by decide +kernel, rfl, rfl⟩
theorem r_1_init_23 : RC M_X1_init 23 400 26 := ⟨⟨by decide, by decide⟩, Or.inr (Or.inr (Or.inl ⟨by decide +kernel, by decide, rfl⟩))⟩
theorem r_1_init_26 : RNA M_X1_init 26 0 28 := ⟨.int, by decide +kernel, rfl, rfl⟩
theorem r_1_init_28 : RP M_X1_init 28 1 6 31 := ⟨21, _, by decide +kernel, rfl, by decide, wd_f1_21, rfl, Or.inr ⟨rfl, rfl, rfl⟩, rfl⟩
theorem r_1_init_31 : RA M_X1_init 31 0 32 := Or.inl ⟨0, by decide +kernel, rfl, rfl⟩
theorem r_1_init_32 : RC M_X1_init 32 400 35 := ⟨⟨by decide, by decide⟩, Or.inr (Or.inr (Or.inl ⟨by decide +kernel, by decide, rfl⟩))⟩
theorem r_1_init_35 : RNA M_X1_init 35 0 37 := ⟨.int, by decide +kernel, rfl, rfl⟩
theorem r_1_init_37 : RP M_X1_init 37 1 7 40 := ⟨24, _, by decide +kernel, rfl, by decide, wd_f1_24, rfl, Or.inr ⟨rfl, rfl, rfl⟩, rfl⟩
theorem r_1_init_40 : RA M_X1_init 40 0 41 := Or.inl ⟨0, by decide +kernel, rfl, rfl⟩
theorem r_1_init_41 : RC M_X1_init 41 400 44 := ⟨⟨by decide, by decide⟩, Or.inr (Or.inr (Or.inl ⟨by decide +kernel, by decide, rfl⟩))⟩
theorem r_1_init_44 : RNA M_X1_init 44 0 46 := ⟨.int, by decide +kernel, rfl, rfl⟩
theorem r_1_init_46 : RP M_X1_init 46 1 8 49 := ⟨27, _, by decide +kernel, rfl, by decide, wd_f1_27, rfl, Or.inr ⟨rfl, rfl, rfl⟩, rfl⟩
theorem r_1_init_49 : RA M_X1_init 49 0 50 := Or.inl ⟨0, by decide +kernel, rfl, rfl⟩
theorem r_1_init_50 : RC M_X1_init 50 400 53 := ⟨⟨by decide, by decide⟩, Or.inr (Or.inr (Or.inl ⟨by decide +kernel, by decide, rfl⟩))⟩
theorem r_1_init_53 : RNA M_X1_init 53 0 55 := ⟨.int, by decide +kernel, rfl, rfl⟩
theorem r_1_init_55 : RP M_X1_init 55 1 9 58 := ⟨30, _, by decide +kernel, rfl, by decide, wd_f1_30, rfl, Or.inr ⟨rfl, rfl, rfl⟩, rfl⟩
theorem r_1_init_58 : RA M_X1_init 58 0 59 := Or.inl ⟨0, by decide +kernel, rfl, rfl⟩
theorem r_1_init_59 : RC M_X1_init 59 5 60 := ⟨⟨by decide, by decide⟩, Or.inl ⟨by decide +kernel, rfl⟩⟩
theorem r_1_init_60 : RNA M_X1_init 60 0 62 := ⟨.int, by decide +kernel, rfl, rfl⟩
theorem r_1_init_62 : RP M_X1_init 62 1 10 65 := ⟨33, _, by decide +kernel, rfl, by decide, wd_f1_33, rfl, Or.inr ⟨rfl, rfl, rfl⟩, rfl⟩
theorem r_1_init_65 : RA M_X1_init 65 0 66 := Or.inl ⟨0, by decide +kernel, rfl, rfl⟩
theorem r_1_init_66 : RC M_X1_init 66 5 67 := ⟨⟨by decide, by decide⟩, Or.inl ⟨by decide +kernel, rfl⟩⟩
theorem r_1_init_67 : RNA M_X1_init 67 0 69 := ⟨.int, by decide +kernel, rfl, rfl⟩
theorem r_1_init_69 : RP M_X1_init 69 1 11 72 := ⟨36, _, by decide +kernel, rfl, by decide, wd_f1_36, rfl, Or.inr ⟨rfl, rfl, rfl⟩, rfl⟩
theorem r_1_init_72 : RA M_X1_init 72 0 73 := Or.inl ⟨0, by decide +kernel, rfl, rfl⟩
theorem r_1_init_73 : RC M_X1_init 73 5 74 := ⟨⟨by decide, by decide⟩, Or.inl ⟨by decide +kernel, rfl⟩⟩
theorem r_1_init_74 : RNA M_X1_init 74 0 76 := ⟨.int, by decide +kernel, rfl, rfl⟩
theorem r_1_init_76 : RP M_X1_init 76 1 12 79 := ⟨39, _, by decide +kernel, rfl, by decide, wd_f1_39, rfl, Or.inr ⟨rfl, rfl, rfl⟩, rfl⟩
theorem r_1_init_79 : RA M_X1_init 79 0 80 := Or.inl ⟨0, by decide +kernel, rfl, rfl⟩
theorem r_1_init_80 : RC M_X1_init 80 150 83 := ⟨⟨by decide, by decide⟩, Or.inr (Or.inr (Or.inl ⟨by decide +kernel, by decide, rfl⟩))⟩
theorem r_1_init_83 : RNA M_X1_init 83 0 85 := ⟨.int, by decide +kernel, rfl, rfl⟩
theorem r_1_init_85 : RP M_X1_init 85 1 14 88 := ⟨42, _, by decide +kernel, rfl, by decide, wd_f1_42, rfl, Or.inr ⟨rfl, rfl, rfl⟩, rfl⟩
theorem r_1_init_88 : RA M_X1_init 88 0 89 := Or.inl ⟨0, by decide +kernel, rfl, rfl⟩
theorem r_1_init_89 : RC M_X1_init 89 24 91 := ⟨⟨by decide, by decide⟩, Or.inr (Or.inl ⟨by decide +kernel, by decide, rfl⟩)⟩
theorem r_1_init_91 : RNA M_X1_init 91 0 93 := ⟨.int, by decide +kernel, rfl, rfl⟩
theorem r_1_init_93 : RP M_X1_init 93 1 16 96 := ⟨45, _, by decide +kernel, rfl, by decide, wd_f1_45, rfl, Or.inr ⟨rfl, rfl, rfl⟩, rfl⟩
theorem r_1_init_96 : RA M_X1_init 96 0 97 := Or.inl ⟨0, by decide +kernel, rfl, rfl⟩
theorem r_1_init_97 : RA M_X1_init 97 1 98 := Or.inl ⟨1, by decide +kernel, rfl, rfl⟩
theorem r_1_init_98 : RP M_X1_init 98 1 4 101 := ⟨48, _, by decide +kernel, rfl, by decide, wd_f1_48, rfl, Or.inr ⟨rfl, rfl, rfl⟩, rfl⟩
theorem r_1_init_101 : RW M_X1_init 101 .return_ 102 1 := ⟨by decide +kernel, rfl⟩
theorem r_9_init_1 : ROI M_X9_init 1 4 := ⟨3, by decide +kernel, wd_m9_3, oin_ok.1, oin_ok.2, rfl⟩
theorem r_9_init_0 : RA M_X9_init 0 0 1 := Or.inl ⟨0, by decide +kernel, rfl, rfl⟩
theorem r_9_init_4 : RA M_X9_init 4 0 5 := Or.inl ⟨0, by decide +kernel, rfl, rfl⟩
theorem r_9_init_5 : RC M_X9_init 5 300 8 := ⟨⟨by decide, by decide⟩, Or.inr (Or.inr (Or.inl ⟨by decide +kernel, by decide, rfl⟩))⟩
theorem r_9_init_8 : RNA M_X9_init 8 0 10 := ⟨.int, by decide +kernel, rfl, rfl⟩
theorem r_9_init_10 : RP M_X9_init 10 9 4 13 := ⟨11, _, by decide +kernel, rfl, by decide, wd_f9_11, rfl, Or.inr ⟨rfl, rfl, rfl⟩, rfl⟩
theorem r_9_init_13 : RA M_X9_init 13 0 14 := Or.inl ⟨0, by decide +kernel, rfl, rfl⟩
theorem r_9_init_14 : RC M_X9_init 14 300 17 := ⟨⟨by decide, by decide⟩, Or.inr (Or.inr (Or.inl ⟨by decide +kernel, by decide, rfl⟩))⟩
theorem r_9_init_17 : RNA M_X9_init 17 0 19 := ⟨.int, by decide +kernel, rfl, rfl⟩
theorem r_9_init_19 : RP M_X9_init 19 9 5 22 := ⟨15, _, by decide +kernel, rfl, by decide, wd_f9_15, rfl, Or.inr ⟨rfl, rfl, rfl⟩, rfl⟩
theorem r_9_init_22 : RA M_X9_init 22 0 23 := Or.inl ⟨0, by decide +kernel, rfl, rfl⟩
theorem r_9_init_23 : RC M_X9_init 23 300 26 := ⟨⟨by decide, by decide⟩, Or.inr (Or.inr (Or.inl ⟨by decide +kernel, by decide, rfl⟩))⟩
theorem r_9_init_26 : RNA M_X9_init 26 0 28 := ⟨.int, by decide +kernel, rfl, rfl⟩
theorem r_9_init_28 : RP M_X9_init 28 9 6 31 := ⟨18, _, by decide +kernel, rfl, by decide, wd_f9_18, rfl, Or.inr ⟨rfl, rfl, rfl⟩, rfl⟩
theorem r_9_init_31 : RA M_X9_init 31 0 32 := Or.inl ⟨0, by decide +kernel, rfl, rfl⟩
theorem r_9_init_32 : RC M_X9_init 32 300 35 := ⟨⟨by decide, by decide⟩, Or.inr (Or.inr (Or.inl ⟨by decide +kernel, by decide, rfl⟩))⟩
theorem r_9_init_35 : RNA M_X9_init 35 0 37 := ⟨.int, by decide +kernel, rfl, rfl⟩
theorem r_9_init_37 : RP M_X9_init 37 9 7 40 := ⟨21, _, by decide +kernel, rfl, by decide, wd_f9_21, rfl, Or.inr ⟨rfl, rfl, rfl⟩, rfl⟩
theorem r_9_init_40 : RA M_X9_init 40 0 41 := Or.inl ⟨0, by decide +kernel, rfl, rfl⟩
theorem r_9_init_41 : RC M_X9_init 41 300 44 := ⟨⟨by decide, by decide⟩, Or.inr (Or.inr (Or.inl ⟨by decide +kernel, by decide, rfl⟩))⟩
theorem r_9_init_44 : RNA M_X9_init 44 0 46 := ⟨.int, by decide +kernel, rfl, rfl⟩
theorem r_9_init_46 : RP M_X9_init 46 9 8 49 := ⟨24, _, by decide +kernel, rfl, by decide, wd_f9_24, rfl, Or.inr ⟨rfl, rfl, rfl⟩, rfl⟩
theorem r_9_init_49 : RA M_X9_init 49 0 50 := Or.inl ⟨0, by decide +kernel, rfl, rfl⟩
theorem r_9_init_50 : RC M_X9_init 50 (-1) 51 := ⟨⟨by decide, by decide⟩, Or.inl ⟨by decide +kernel, rfl⟩⟩
theorem r_9_init_51 : RP M_X9_init 51 9 9 54 := ⟨27, _, by decide +kernel, rfl, by decide, wd_f9_27, rfl, Or.inl rfl, rfl⟩
theorem r_9_init_54 : RA M_X9_init 54 0 55 := Or.inl ⟨0, by decide +kernel, rfl, rfl⟩
theorem r_9_init_55 : RC M_X9_init 55 40 57 := ⟨⟨by decide, by decide⟩, Or.inr (Or.inl ⟨by decide +kernel, by decide, rfl⟩)⟩
theorem r_9_init_57 : RNA M_X9_init 57 0 59 := ⟨.int, by decide +kernel, rfl, rfl⟩
theorem r_9_init_59 : RP M_X9_init 59 9 10 62 := ⟨31, _, by decide +kernel, rfl, by decide, wd_f9_31, rfl, Or.inr ⟨rfl, rfl, rfl⟩, rfl⟩
theorem r_9_init_62 : RA M_X9_init 62 0 63 := Or.inl ⟨0, by decide +kernel, rfl, rfl⟩
theorem r_9_init_63 : RC M_X9_init 63 40 65 := ⟨⟨by decide, by decide⟩, Or.inr (Or.inl ⟨by decide +kernel, by decide, rfl⟩)⟩
theorem r_9_init_65 : RNA M_X9_init 65 0 67 := ⟨.int, by decide +kernel, rfl, rfl⟩
theorem r_9_init_67 : RP M_X9_init 67 9 11 70 := ⟨34, _, by decide +kernel, rfl, by decide, wd_f9_34, rfl, Or.inr ⟨rfl, rfl, rfl⟩, rfl⟩
theorem r_9_init_70 : RA M_X9_init 70 0 71 := Or.inl ⟨0, by decide +kernel, rfl, rfl⟩
theorem r_9_init_71 : RC M_X9_init 71 40 73 := ⟨⟨by decide, by decide⟩, Or.inr (Or.inl ⟨by decide +kernel, by decide, rfl⟩)⟩
theorem r_9_init_73 : RNA M_X9_init 73 0 75 := ⟨.int, by decide +kernel, rfl, rfl⟩
theorem r_9_init_75 : RP M_X9_init 75 9 12 78 := ⟨37, _, by decide +kernel, rfl, by decide, wd_f9_37, rfl, Or.inr ⟨rfl, rfl, rfl⟩, rfl⟩
theorem r_9_init_78 : RA M_X9_init 78 0 79 := Or.inl ⟨0, by decide +kernel, rfl, rfl⟩
theorem r_9_init_79 : RC M_X9_init 79 40 81 := ⟨⟨by decide, by decide⟩, Or.inr (Or.inl ⟨by decide +kernel, by decide, rfl⟩)⟩
theorem r_9_init_81 : RNA M_X9_init 81 0 83 := ⟨.int, by decide +kernel, rfl, rfl⟩
theorem r_9_init_83 : RP M_X9_init 83 9 13 86 := ⟨40, _, by decide +kernel, rfl, by decide, wd_f9_40, rfl, Or.inr ⟨rfl, rfl, rfl⟩, rfl⟩
theorem r_9_init_86 : RA M_X9_init 86 0 87 := Or.inl ⟨0, by decide +kernel, rfl, rfl⟩
theorem r_9_init_87 : RA M_X9_init 87 1 88 := Or.inl ⟨1, by decide +kernel, rfl, rfl⟩
theorem r_9_init_88 : RP M_X9_init 88 9 3 91 := ⟨43, _, by decide +kernel, rfl, by decide, wd_f9_43, rfl, Or.inr ⟨rfl, rfl, rfl⟩, rfl⟩
theorem r_9_init_91 : RW M_X9_init 91 .return_ 92 1 := ⟨by decide +kernel, rfl⟩
theorem r_4_init_1 : ROI M_X4_init 1 4 := ⟨3, by decide +kernel, wd_m4_3, oin_ok.1, oin_ok.2, rfl⟩
theorem r_4_init_0 : RA M_X4_init 0 0 1 := Or.inl ⟨0, by decide +kernel, rfl, rfl⟩
theorem r_4_init_4 : RA M_X4_init 4 0 5 := Or.inl ⟨0, by decide +kernel, rfl, rfl⟩
theorem r_4_init_5 : RC M_X4_init 5 9 7 := ⟨⟨by decide, by decide⟩, Or.inr (Or.inl ⟨by decide +kernel, by decide, rfl⟩)⟩
theorem r_4_init_7 : RNA M_X4_init 7 0 9 := ⟨.int, by decide +kernel, rfl, rfl⟩
theorem r_4_init_9 : RP M_X4_init 9 4 0 12 := ⟨9, _, by decide +kernel, rfl, by decide, wd_f4_9, rfl, Or.inr ⟨rfl, rfl, rfl⟩, rfl⟩
theorem r_4_init_12 : RA M_X4_init 12 0 13 := Or.inl ⟨0, by decide +kernel, rfl, rfl⟩
theorem r_4_init_13 : RC M_X4_init 13 0 14 := ⟨⟨by decide, by decide⟩, Or.inl ⟨by decide +kernel, rfl⟩⟩
theorem r_4_init_14 : RNA M_X4_init 14 1 16 := ⟨.byte, by decide +kernel, rfl, rfl⟩
theorem r_4_init_16 : RP M_X4_init 16 4 3 19 := ⟨15, _, by decide +kernel, rfl, by decide, wd_f4_15, rfl, Or.inl rfl, rfl⟩
theorem r_4_init_19 : RW M_X4_init 19 .return_ 20 1 := ⟨by decide +kernel, rfl⟩
theorem r_8_init_1 : ROI M_X8_init 1 4 := ⟨3, by decide +kernel, wd_m8_3, oin_ok.1, oin_ok.2, rfl⟩
theorem r_8_init_0 : RA M_X8_init 0 0 1 := Or.inl ⟨0, by decide +kernel, rfl, rfl⟩
theorem r_8_init_8 : RW M_X8_init 8 .dup 9 1 := ⟨by decide +kernel, rfl⟩
theorem r_8_init_4 : RA M_X8_init 4 0 5 := Or.inl ⟨0, by decide +kernel, rfl, rfl⟩
theorem r_8_init_9 : RKc M_X8_init M_X4_init 9 0 4 12 := ⟨11, by decide +kernel, Or.inr (by decide +kernel), ok_M_X4_init, rfl, rfl, rfl⟩
theorem r_8_init_12 : RP M_X8_init 12 8 4 15 := ⟨12, _, by decide +kernel, rfl, by decide, wd_f8_12, rfl, Or.inr ⟨rfl, rfl, rfl⟩, rfl⟩
theorem r_8_init_15 : RA M_X8_init 15 0 16 := Or.inl ⟨0, by decide +kernel, rfl, rfl⟩
theorem r_8_init_16 : RC M_X8_init 16 160 19 := ⟨⟨by decide, by decide⟩, Or.inr (Or.inr (Or.inl ⟨by decide +kernel, by decide, rfl⟩))⟩
theorem r_8_init_19 : RNA M_X8_init 19 1 21 := ⟨.byte, by decide +kernel, rfl, rfl⟩
theorem r_8_init_21 : RP M_X8_init 21 8 5 24 := ⟨18, _, by decide +kernel, rfl, by decide, wd_f8_18, rfl, Or.inr ⟨rfl, rfl, rfl⟩, rfl⟩
theorem r_8_init_30 : RNM M_X8_init 30 1 34 := ⟨22, by decide +kernel, wd_cl8_22, rfl⟩
theorem r_8_init_24 : RA M_X8_init 24 0 25 := Or.inl ⟨0, by decide +kernel, rfl, rfl⟩
theorem r_8_init_25 : RC M_X8_init 25 20 27 := ⟨⟨by decide, by decide⟩, Or.inr (Or.inl ⟨by decide +kernel, by decide, rfl⟩)⟩
theorem r_8_init_27 : RC M_X8_init 27 160 30 := ⟨⟨by decide, by decide⟩, Or.inr (Or.inr (Or.inl ⟨by decide +kernel, by decide, rfl⟩))⟩
theorem r_8_init_34 : RP M_X8_init 34 8 6 37 := ⟨24, _, by decide +kernel, rfl, by decide, wd_f8_24, rfl, Or.inr ⟨rfl, rfl, rfl⟩, rfl⟩
theorem r_8_init_37 : RA M_X8_init 37 0 38 := Or.inl ⟨0, by decide +kernel, rfl, rfl⟩
theorem r_8_init_38 : RC M_X8_init 38 20 40 := ⟨⟨by decide, by decide⟩, Or.inr (Or.inl ⟨by decide +kernel, by decide, rfl⟩)⟩
theorem r_8_init_40 : RNA M_X8_init 40 0 42 := ⟨.int, by decide +kernel, rfl, rfl⟩
theorem r_8_init_42 : RP M_X8_init 42 8 7 45 := ⟨27, _, by decide +kernel, rfl, by decide, wd_f8_27, rfl, Or.inr ⟨rfl, rfl, rfl⟩, rfl⟩
theorem r_8_init_45 : RA M_X8_init 45 0 46 := Or.inl ⟨0, by decide +kernel, rfl, rfl⟩
theorem r_8_init_46 : RC M_X8_init 46 20 48 := ⟨⟨by decide, by decide⟩, Or.inr (Or.inl ⟨by decide +kernel, by decide, rfl⟩)⟩
theorem r_8_init_48 : RNA M_X8_init 48 0 50 := ⟨.int, by decide +kernel, rfl, rfl⟩
theorem r_8_init_50 : RP M_X8_init 50 8 8 53 := ⟨31, _, by decide +kernel, rfl, by decide, wd_f8_31, rfl, Or.inr ⟨rfl, rfl, rfl⟩, rfl⟩
theorem r_8_init_53 : RA M_X8_init 53 0 54 := Or.inl ⟨0, by decide +kernel, rfl, rfl⟩
theorem r_8_init_54 : RC M_X8_init 54 20 56 := ⟨⟨by decide, by decide⟩, Or.inr (Or.inl ⟨by decide +kernel, by decide, rfl⟩)⟩
theorem r_8_init_56 : RNA M_X8_init 56 0 58 := ⟨.int, by decide +kernel, rfl, rfl⟩
theorem r_8_init_58 : RP M_X8_init 58 8 9 61 := ⟨34, _, by decide +kernel, rfl, by decide, wd_f8_34, rfl, Or.inr ⟨rfl, rfl, rfl⟩, rfl⟩
theorem r_8_init_61 : RA M_X8_init 61 0 62 := Or.inl ⟨0, by decide +kernel, rfl, rfl⟩
theorem r_8_init_62 : RC M_X8_init 62 20 64 := ⟨⟨by decide, by decide⟩, Or.inr (Or.inl ⟨by decide +kernel, by decide, rfl⟩)⟩
theorem r_8_init_64 : RNA M_X8_init 64 0 66 := ⟨.int, by decide +kernel, rfl, rfl⟩
theorem r_8_init_66 : RP M_X8_init 66 8 10 69 := ⟨37, _, by decide +kernel, rfl, by decide, wd_f8_37, rfl, Or.inr ⟨rfl, rfl, rfl⟩, rfl⟩
theorem r_8_init_69 : RA M_X8_init 69 0 70 := Or.inl ⟨0, by decide +kernel, rfl, rfl⟩
theorem r_8_init_70 : RA M_X8_init 70 1 71 := Or.inl ⟨1, by decide +kernel, rfl, rfl⟩
theorem r_8_init_71 : RP M_X8_init 71 8 2 74 := ⟨40, _, by decide +kernel, rfl, by decide, wd_f8_40, rfl, Or.inr ⟨rfl, rfl, rfl⟩, rfl⟩
theorem r_8_init_74 : RA M_X8_init 74 0 75 := Or.inl ⟨0, by decide +kernel, rfl, rfl⟩
theorem r_8_init_75 : RA M_X8_init 75 2 76 := Or.inl ⟨2, by decide +kernel, rfl, rfl⟩
theorem r_8_init_76 : RP M_X8_init 76 8 3 79 := ⟨44, _, by decide +kernel, rfl, by decide, wd_f8_44, rfl, Or.inr ⟨rfl, rfl, rfl⟩, rfl⟩
theorem r_8_init_79 : RW M_X8_init 79 .return_ 80 1 := ⟨by decide +kernel, rfl⟩
def lc2 : List PR := ((((([] ++ [(41, 0)]) ++ [(42, 0)]) ++ [(43, 0)]) ++ [(44, 0)]) ++ [(45, 0)])
set_option maxRecDepth 10000 in
theorem ctor_2 {l : Launch} {w : Wo} (hw : AlOk w) : Met l M_X2_init.1 (wsM M_X2_init) (bR 2 5 392) (PcB w 2 2 [vR 2 0]) (QcB (frA w 2 2) (FcB w ga (2 + 5) ((2, 0) :: lc2))) 5 392 (frA w 2 2) := by
  refine met_ctor (by decide +kernel) rfl (Nat.le_of_ble_eq_true rfl) ?_
  rw [st_W (G := ga) (N := 6) (by decide +kernel)]
  refine b_aload r_2_init_0 rfl (b_objInit r_2_init_1 (by decide) rfl ?_)
  refine b_itA (len := 16) (t := 0) (ck := 41) r_2_init_4 r_2_init_5 r_2_init_7 r_2_init_9 sh41 (by decide) (Nat.le_of_ble_eq_true rfl) (fun _ => rfl) (al_at hw (by decide) (by decide +kernel)) (fval_R fs_2_0 (by decide)) rfl (by decide) rfl ⟨Nat.le_of_ble_eq_true rfl, Nat.le_of_ble_eq_true rfl⟩ (kc' := 1) (ks' := 16) rfl rfl ?_
  refine b_itA (len := 16) (t := 0) (ck := 42) r_2_init_12 r_2_init_13 r_2_init_15 r_2_init_17 sh42 (by decide) (Nat.le_of_ble_eq_true rfl) (fun _ => rfl) (al_at hw (by decide) (by decide +kernel)) (fval_R fs_2_1 (by decide)) rfl (by decide) rfl ⟨Nat.le_of_ble_eq_true rfl, Nat.le_of_ble_eq_true rfl⟩ (kc' := 2) (ks' := 32) rfl rfl ?_
  refine b_itA (len := 324) (t := 0) (ck := 43) r_2_init_20 r_2_init_21 r_2_init_24 r_2_init_26 sh43 (by decide) (Nat.le_of_ble_eq_true rfl) (fun _ => rfl) (al_at hw (by decide) (by decide +kernel)) (fval_R fs_2_3 (by decide)) rfl (by decide) rfl ⟨Nat.le_of_ble_eq_true rfl, Nat.le_of_ble_eq_true rfl⟩ (kc' := 3) (ks' := 356) rfl rfl ?_
  refine b_itA (len := 18) (t := 0) (ck := 44) r_2_init_29 r_2_init_30 r_2_init_32 r_2_init_34 sh44 (by decide) (Nat.le_of_ble_eq_true rfl) (fun _ => rfl) (al_at hw (by decide) (by decide +kernel)) (fval_R fs_2_4 (by decide)) rfl (by decide) rfl ⟨Nat.le_of_ble_eq_true rfl, Nat.le_of_ble_eq_true rfl⟩ (kc' := 4) (ks' := 374) rfl rfl ?_
  refine b_itA (len := 18) (t := 2) (ck := 45) r_2_init_37 r_2_init_38 r_2_init_40 r_2_init_42 sh45 (by decide) (Nat.le_of_ble_eq_true rfl) (fun _ => rfl) (al_at hw (by decide) (by decide +kernel)) (fval_R fs_2_5 (by decide)) rfl (by decide) rfl ⟨Nat.le_of_ble_eq_true rfl, Nat.le_of_ble_eq_true rfl⟩ (kc' := 5) (ks' := 392) rfl rfl ?_
  exact b_ret r_2_init_45 rfl rfl rfl (fun H hz hP => ⟨by omega, fin_W sh2 (by decide +kernel) rfl hP⟩)
def lc1 : List PR := ((((((((((([] ++ [(30, 0)]) ++ [(31, 0)]) ++ [(32, 0)]) ++ [(33, 0)]) ++ [(34, 0)]) ++ [(35, 0)]) ++ [(36, 0)]) ++ [(37, 0)]) ++ [(38, 0)]) ++ [(39, 0)]) ++ [(40, 0)])
set_option maxRecDepth 10000 in
theorem ctor_1 {l : Launch} {w : Wo} (hw : AlOk w) : Met l M_X1_init.1 (wsM M_X1_init) (bR 2 11 1949) (PcB w 8 1 [vR 1 0, vR 2 0]) (QcB (frA w 1 8) (FcB w ga (8 + 11) ((1, 0) :: lc1))) 11 1949 (frA w 1 8) := by
  refine met_ctor (by decide +kernel) rfl (Nat.le_of_ble_eq_true rfl) ?_
  rw [st_W (G := ga) (N := 18) (by decide +kernel)]
  refine b_aload r_1_init_0 rfl (b_objInit r_1_init_1 (by decide) rfl ?_)
  refine b_itP (len := 150) (ck := 30) r_1_init_4 r_1_init_5 r_1_init_8 r_1_init_11 sh30 (Nat.le_of_ble_eq_true rfl) (fun _ => rfl) (al_at hw (by decide) (by decide +kernel)) (fval_R fs_1_0 (by decide)) rfl (by decide) rfl ⟨Nat.le_of_ble_eq_true rfl, Nat.le_of_ble_eq_true rfl⟩ (kc' := 1) (ks' := 150) rfl rfl ?_
  refine b_itA (len := 10) (t := 0) (ck := 31) r_1_init_14 r_1_init_15 r_1_init_17 r_1_init_19 sh31 (by decide) (Nat.le_of_ble_eq_true rfl) (fun _ => rfl) (al_at hw (by decide) (by decide +kernel)) (fval_R fs_1_5 (by decide)) rfl (by decide) rfl ⟨Nat.le_of_ble_eq_true rfl, Nat.le_of_ble_eq_true rfl⟩ (kc' := 2) (ks' := 160) rfl rfl ?_
  refine b_itA (len := 400) (t := 0) (ck := 32) r_1_init_22 r_1_init_23 r_1_init_26 r_1_init_28 sh32 (by decide) (Nat.le_of_ble_eq_true rfl) (fun _ => rfl) (al_at hw (by decide) (by decide +kernel)) (fval_R fs_1_6 (by decide)) rfl (by decide) rfl ⟨Nat.le_of_ble_eq_true rfl, Nat.le_of_ble_eq_true rfl⟩ (kc' := 3) (ks' := 560) rfl rfl ?_
  refine b_itA (len := 400) (t := 0) (ck := 33) r_1_init_31 r_1_init_32 r_1_init_35 r_1_init_37 sh33 (by decide) (Nat.le_of_ble_eq_true rfl) (fun _ => rfl) (al_at hw (by decide) (by decide +kernel)) (fval_R fs_1_7 (by decide)) rfl (by decide) rfl ⟨Nat.le_of_ble_eq_true rfl, Nat.le_of_ble_eq_true rfl⟩ (kc' := 4) (ks' := 960) rfl rfl ?_
  refine b_itA (len := 400) (t := 0) (ck := 34) r_1_init_40 r_1_init_41 r_1_init_44 r_1_init_46 sh34 (by decide) (Nat.le_of_ble_eq_true rfl) (fun _ => rfl) (al_at hw (by decide) (by decide +kernel)) (fval_R fs_1_8 (by decide)) rfl (by decide) rfl ⟨Nat.le_of_ble_eq_true rfl, Nat.le_of_ble_eq_true rfl⟩ (kc' := 5) (ks' := 1360) rfl rfl ?_
  refine b_itA (len := 400) (t := 0) (ck := 35) r_1_init_49 r_1_init_50 r_1_init_53 r_1_init_55 sh35 (by decide) (Nat.le_of_ble_eq_true rfl) (fun _ => rfl) (al_at hw (by decide) (by decide +kernel)) (fval_R fs_1_9 (by decide)) rfl (by decide) rfl ⟨Nat.le_of_ble_eq_true rfl, Nat.le_of_ble_eq_true rfl⟩ (kc' := 6) (ks' := 1760) rfl rfl ?_
  refine b_itA (len := 5) (t := 0) (ck := 36) r_1_init_58 r_1_init_59 r_1_init_60 r_1_init_62 sh36 (by decide) (Nat.le_of_ble_eq_true rfl) (fun _ => rfl) (al_at hw (by decide) (by decide +kernel)) (fval_R fs_1_10 (by decide)) rfl (by decide) rfl ⟨Nat.le_of_ble_eq_true rfl, Nat.le_of_ble_eq_true rfl⟩ (kc' := 7) (ks' := 1765) rfl rfl ?_
  refine b_itA (len := 5) (t := 0) (ck := 37) r_1_init_65 r_1_init_66 r_1_init_67 r_1_init_69 sh37 (by decide) (Nat.le_of_ble_eq_true rfl) (fun _ => rfl) (al_at hw (by decide) (by decide +kernel)) (fval_R fs_1_11 (by decide)) rfl (by decide) rfl ⟨Nat.le_of_ble_eq_true rfl, Nat.le_of_ble_eq_true rfl⟩ (kc' := 8) (ks' := 1770) rfl rfl ?_
  refine b_itA (len := 5) (t := 0) (ck := 38) r_1_init_72 r_1_init_73 r_1_init_74 r_1_init_76 sh38 (by decide) (Nat.le_of_ble_eq_true rfl) (fun _ => rfl) (al_at hw (by decide) (by decide +kernel)) (fval_R fs_1_12 (by decide)) rfl (by decide) rfl ⟨Nat.le_of_ble_eq_true rfl, Nat.le_of_ble_eq_true rfl⟩ (kc' := 9) (ks' := 1775) rfl rfl ?_
  refine b_itA (len := 150) (t := 0) (ck := 39) r_1_init_79 r_1_init_80 r_1_init_83 r_1_init_85 sh39 (by decide) (Nat.le_of_ble_eq_true rfl) (fun _ => rfl) (al_at hw (by decide) (by decide +kernel)) (fval_R fs_1_14 (by decide)) rfl (by decide) rfl ⟨Nat.le_of_ble_eq_true rfl, Nat.le_of_ble_eq_true rfl⟩ (kc' := 10) (ks' := 1925) rfl rfl ?_
  refine b_itA (len := 24) (t := 0) (ck := 40) r_1_init_88 r_1_init_89 r_1_init_91 r_1_init_93 sh40 (by decide) (Nat.le_of_ble_eq_true rfl) (fun _ => rfl) (al_at hw (by decide) (by decide +kernel)) (fval_R fs_1_16 (by decide)) rfl (by decide) rfl ⟨Nat.le_of_ble_eq_true rfl, Nat.le_of_ble_eq_true rfl⟩ (kc' := 11) (ks' := 1949) rfl rfl ?_
  refine b_itR (cj := 2) (j := 1) r_1_init_96 r_1_init_97 r_1_init_98 (fval_R fs_1_4 (by decide)) rfl (by decide) rfl rfl ?_
  exact b_ret r_1_init_101 rfl rfl rfl (fun H hz hP => ⟨by omega, fin_W sh1 (by decide +kernel) rfl hP⟩)
def lc9 : List PR := ((((((((([] ++ [(83, 0)]) ++ [(84, 0)]) ++ [(85, 0)]) ++ [(86, 0)]) ++ [(87, 0)]) ++ [(88, 0)]) ++ [(89, 0)]) ++ [(90, 0)]) ++ [(91, 0)])
set_option maxRecDepth 10000 in
theorem ctor_9 {l : Launch} {w : Wo} (hw : AlOk w) : Met l M_X9_init.1 (wsM M_X9_init) (bR 2 9 1660) (PcB w 20 9 [vR 9 0, vR 1 0]) (QcB (frA w 9 20) (FcB w ga (20 + 9) ((9, 0) :: lc9))) 9 1660 (frA w 9 20) := by
  refine met_ctor (by decide +kernel) rfl (Nat.le_of_ble_eq_true rfl) ?_
  rw [st_W (G := ga) (N := 14) (by decide +kernel)]
  refine b_aload r_9_init_0 rfl (b_objInit r_9_init_1 (by decide) rfl ?_)
  refine b_itA (len := 300) (t := 0) (ck := 83) r_9_init_4 r_9_init_5 r_9_init_8 r_9_init_10 sh83 (by decide) (Nat.le_of_ble_eq_true rfl) (fun _ => rfl) (al_at hw (by decide) (by decide +kernel)) (fval_R fs_9_4 (by decide)) rfl (by decide) rfl ⟨Nat.le_of_ble_eq_true rfl, Nat.le_of_ble_eq_true rfl⟩ (kc' := 1) (ks' := 300) rfl rfl ?_
  refine b_itA (len := 300) (t := 0) (ck := 84) r_9_init_13 r_9_init_14 r_9_init_17 r_9_init_19 sh84 (by decide) (Nat.le_of_ble_eq_true rfl) (fun _ => rfl) (al_at hw (by decide) (by decide +kernel)) (fval_R fs_9_5 (by decide)) rfl (by decide) rfl ⟨Nat.le_of_ble_eq_true rfl, Nat.le_of_ble_eq_true rfl⟩ (kc' := 2) (ks' := 600) rfl rfl ?_
  refine b_itA (len := 300) (t := 0) (ck := 85) r_9_init_22 r_9_init_23 r_9_init_26 r_9_init_28 sh85 (by decide) (Nat.le_of_ble_eq_true rfl) (fun _ => rfl) (al_at hw (by decide) (by decide +kernel)) (fval_R fs_9_6 (by decide)) rfl (by decide) rfl ⟨Nat.le_of_ble_eq_true rfl, Nat.le_of_ble_eq_true rfl⟩ (kc' := 3) (ks' := 900) rfl rfl ?_
  refine b_itA (len := 300) (t := 0) (ck := 86) r_9_init_31 r_9_init_32 r_9_init_35 r_9_init_37 sh86 (by decide) (Nat.le_of_ble_eq_true rfl) (fun _ => rfl) (al_at hw (by decide) (by decide +kernel)) (fval_R fs_9_7 (by decide)) rfl (by decide) rfl ⟨Nat.le_of_ble_eq_true rfl, Nat.le_of_ble_eq_true rfl⟩ (kc' := 4) (ks' := 1200) rfl rfl ?_
  refine b_itA (len := 300) (t := 0) (ck := 87) r_9_init_40 r_9_init_41 r_9_init_44 r_9_init_46 sh87 (by decide) (Nat.le_of_ble_eq_true rfl) (fun _ => rfl) (al_at hw (by decide) (by decide +kernel)) (fval_R fs_9_8 (by decide)) rfl (by decide) rfl ⟨Nat.le_of_ble_eq_true rfl, Nat.le_of_ble_eq_true rfl⟩ (kc' := 5) (ks' := 1500) rfl rfl ?_
  refine b_itI (v := (-1)) r_9_init_49 r_9_init_50 r_9_init_51 (fval_V fs_9_9 (by decide) rfl) rfl (by decide) rfl ?_
  refine b_itA (len := 40) (t := 0) (ck := 88) r_9_init_54 r_9_init_55 r_9_init_57 r_9_init_59 sh88 (by decide) (Nat.le_of_ble_eq_true rfl) (fun _ => rfl) (al_at hw (by decide) (by decide +kernel)) (fval_R fs_9_10 (by decide)) rfl (by decide) rfl ⟨Nat.le_of_ble_eq_true rfl, Nat.le_of_ble_eq_true rfl⟩ (kc' := 6) (ks' := 1540) rfl rfl ?_
  refine b_itA (len := 40) (t := 0) (ck := 89) r_9_init_62 r_9_init_63 r_9_init_65 r_9_init_67 sh89 (by decide) (Nat.le_of_ble_eq_true rfl) (fun _ => rfl) (al_at hw (by decide) (by decide +kernel)) (fval_R fs_9_11 (by decide)) rfl (by decide) rfl ⟨Nat.le_of_ble_eq_true rfl, Nat.le_of_ble_eq_true rfl⟩ (kc' := 7) (ks' := 1580) rfl rfl ?_
  refine b_itA (len := 40) (t := 0) (ck := 90) r_9_init_70 r_9_init_71 r_9_init_73 r_9_init_75 sh90 (by decide) (Nat.le_of_ble_eq_true rfl) (fun _ => rfl) (al_at hw (by decide) (by decide +kernel)) (fval_R fs_9_12 (by decide)) rfl (by decide) rfl ⟨Nat.le_of_ble_eq_true rfl, Nat.le_of_ble_eq_true rfl⟩ (kc' := 8) (ks' := 1620) rfl rfl ?_
  refine b_itA (len := 40) (t := 0) (ck := 91) r_9_init_78 r_9_init_79 r_9_init_81 r_9_init_83 sh91 (by decide) (Nat.le_of_ble_eq_true rfl) (fun _ => rfl) (al_at hw (by decide) (by decide +kernel)) (fval_R fs_9_13 (by decide)) rfl (by decide) rfl ⟨Nat.le_of_ble_eq_true rfl, Nat.le_of_ble_eq_true rfl⟩ (kc' := 9) (ks' := 1660) rfl rfl ?_
  refine b_itR (cj := 1) (j := 1) r_9_init_86 r_9_init_87 r_9_init_88 (fval_R fs_9_3 (by decide)) rfl (by decide) rfl rfl ?_
  exact b_ret r_9_init_91 rfl rfl rfl (fun H hz hP => ⟨by omega, fin_W sh9 (by decide +kernel) rfl hP⟩)
def lc4 : List PR := (([] ++ [(46, 0)]) ++ [(106, 0)])
set_option maxRecDepth 10000 in
theorem ctor_4 {l : Launch} {w : Wo} (hw : AlOk w) : Met l M_X4_init.1 (wsM M_X4_init) (bR 2 2 9) (PcB w 31 4 [vR 4 0]) (QcB (frA w 4 31) (FcB w ga (31 + 2) ((4, 0) :: lc4))) 2 9 (frA w 4 31) := by
  refine met_ctor (by decide +kernel) rfl (Nat.le_of_ble_eq_true rfl) ?_
  rw [st_W (G := ga) (N := 6) (by decide +kernel)]
  refine b_aload r_4_init_0 rfl (b_objInit r_4_init_1 (by decide) rfl ?_)
  refine b_itA (len := 9) (t := 0) (ck := 46) r_4_init_4 r_4_init_5 r_4_init_7 r_4_init_9 sh46 (by decide) (Nat.le_of_ble_eq_true rfl) (fun _ => rfl) (al_at hw (by decide) (by decide +kernel)) (fval_R fs_4_0 (by decide)) rfl (by decide) rfl ⟨Nat.le_of_ble_eq_true rfl, Nat.le_of_ble_eq_true rfl⟩ (kc' := 1) (ks' := 9) rfl rfl ?_
  refine b_itA (len := 0) (t := 1) (ck := 106) r_4_init_12 r_4_init_13 r_4_init_14 r_4_init_16 sh106 (by decide) (Nat.le_of_ble_eq_true rfl) (fun _ => rfl) (al_at hw (by decide) (by decide +kernel)) (rfl) rfl (by decide) rfl ⟨Nat.le_of_ble_eq_true rfl, Nat.le_of_ble_eq_true rfl⟩ (kc' := 2) (ks' := 9) rfl rfl ?_
  exact b_ret r_4_init_19 rfl rfl rfl (fun H hz hP => ⟨by omega, fin_W sh4 (by decide +kernel) rfl hP⟩)
def lc8 : List PR := ((((((([] ++ ((4, 0) :: lc4)) ++ [(76, 0)]) ++ ((77, 0) :: rowsL 78 20)) ++ [(79, 0)]) ++ [(80, 0)]) ++ [(81, 0)]) ++ [(82, 0)])
set_option maxRecDepth 10000 in
theorem ctor_8 {l : Launch} {w : Wo} (hw : AlOk w) : Met l M_X8_init.1 (wsM M_X8_init) (bR 3 29 3475) (PcB w 30 8 [vR 8 0, vR 1 0, vR 9 0]) (QcB (frA w 8 30) (FcB w ga (30 + 29) ((8, 0) :: lc8))) 29 3475 (frA w 8 30) := by
  refine met_ctor (by decide +kernel) rfl (Nat.le_of_ble_eq_true rfl) ?_
  rw [st_W (G := ga) (N := 11) (by decide +kernel)]
  refine b_aload r_8_init_0 rfl (b_objInit r_8_init_1 (by decide) rfl ?_)
  refine b_aload r_8_init_4 rfl (b_new (c2 := 4) (N := 6) (q := (RX4, TX4, 6)) ⟨9, by decide +kernel, wd_cl8_9, wd_inst4, wd_ini4, rfl⟩ rfl rfl (al_at hw (by decide) (by decide +kernel)) ⟨Nat.le_of_ble_eq_true rfl, Nat.le_of_ble_eq_true rfl⟩ (kc' := 1) (ks' := 6) rfl rfl (b_dup r_8_init_8 ?_))
  refine b_ctor (M' := M_X4_init) (n := 0) (d' := 2) (mc' := 2) (ms' := 9) (G := ga) (av := []) (L2 := lc4) r_8_init_9 rfl (ctor_4 hw) hw (frA_base hw (by decide)) (by decide +kernel) (Nat.le_of_ble_eq_true rfl) ⟨Nat.le_of_ble_eq_true rfl, Nat.le_of_ble_eq_true rfl⟩ (kc' := 3) (ks' := 15) rfl rfl rfl ?_
  rw [wW_app]
  refine b_putW r_8_init_12 (rty_ok rfl) (by decide) (fval_R fs_8_4 (by decide)) ?_
  refine b_itA (len := 160) (t := 1) (ck := 76) r_8_init_15 r_8_init_16 r_8_init_19 r_8_init_21 sh76 (by decide) (Nat.le_of_ble_eq_true rfl) (fun _ => rfl) (al_at hw (by decide) (by decide +kernel)) (fval_R fs_8_5 (by decide)) rfl (by decide) rfl ⟨Nat.le_of_ble_eq_true rfl, Nat.le_of_ble_eq_true rfl⟩ (kc' := 4) (ks' := 175) rfl rfl ?_
  refine b_itM (ck := 77) (rk := 78) (Nr := 20) (K := 160) (t := 1) (t' := 5) r_8_init_24 r_8_init_25 r_8_init_27 r_8_init_30 r_8_init_34 sh77 sh78 (by decide) (by decide) (by decide) rfl (Nat.le_of_ble_eq_true rfl) (Nat.le_of_ble_eq_true rfl) aS77 (fun _ _ => rfl) hw (by decide) (by decide +kernel) (fval_R fs_8_6 (by decide)) rfl (by decide) rfl ⟨Nat.le_of_ble_eq_true rfl, Nat.le_of_ble_eq_true rfl⟩ (kc' := 25) (ks' := 3395) rfl rfl ?_
  refine b_itA (len := 20) (t := 0) (ck := 79) r_8_init_37 r_8_init_38 r_8_init_40 r_8_init_42 sh79 (by decide) (Nat.le_of_ble_eq_true rfl) (fun _ => rfl) (al_at hw (by decide) (by decide +kernel)) (fval_R fs_8_7 (by decide)) rfl (by decide) rfl ⟨Nat.le_of_ble_eq_true rfl, Nat.le_of_ble_eq_true rfl⟩ (kc' := 26) (ks' := 3415) rfl rfl ?_
  refine b_itA (len := 20) (t := 0) (ck := 80) r_8_init_45 r_8_init_46 r_8_init_48 r_8_init_50 sh80 (by decide) (Nat.le_of_ble_eq_true rfl) (fun _ => rfl) (al_at hw (by decide) (by decide +kernel)) (fval_R fs_8_8 (by decide)) rfl (by decide) rfl ⟨Nat.le_of_ble_eq_true rfl, Nat.le_of_ble_eq_true rfl⟩ (kc' := 27) (ks' := 3435) rfl rfl ?_
  refine b_itA (len := 20) (t := 0) (ck := 81) r_8_init_53 r_8_init_54 r_8_init_56 r_8_init_58 sh81 (by decide) (Nat.le_of_ble_eq_true rfl) (fun _ => rfl) (al_at hw (by decide) (by decide +kernel)) (fval_R fs_8_9 (by decide)) rfl (by decide) rfl ⟨Nat.le_of_ble_eq_true rfl, Nat.le_of_ble_eq_true rfl⟩ (kc' := 28) (ks' := 3455) rfl rfl ?_
  refine b_itA (len := 20) (t := 0) (ck := 82) r_8_init_61 r_8_init_62 r_8_init_64 r_8_init_66 sh82 (by decide) (Nat.le_of_ble_eq_true rfl) (fun _ => rfl) (al_at hw (by decide) (by decide +kernel)) (fval_R fs_8_10 (by decide)) rfl (by decide) rfl ⟨Nat.le_of_ble_eq_true rfl, Nat.le_of_ble_eq_true rfl⟩ (kc' := 29) (ks' := 3475) rfl rfl ?_
  refine b_itR (cj := 1) (j := 1) r_8_init_69 r_8_init_70 r_8_init_71 (fval_R fs_8_2 (by decide)) rfl (by decide) rfl rfl ?_
  refine b_itR (cj := 9) (j := 2) r_8_init_74 r_8_init_75 r_8_init_76 (fval_R fs_8_3 (by decide)) rfl (by decide) rfl rfl ?_
  exact b_ret r_8_init_79 rfl rfl rfl (fun H hz hP => ⟨by omega, fin_W sh8 (by decide +kernel) rfl hP⟩)
