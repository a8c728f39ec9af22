theorem sA_uA_ne (G : PH) (c c1 : Nat) (r r1 i v : Int) (f : Int → Int) (h : c ≠ c1) : sA (uA G c r f) c1 r1 i v = uA (sA G c1 r1 i v) c r f := by
  unfold sA uA
  refine Prod.ext rfl (Prod.ext ?_ rfl)
  funext c' r' i'
  show (if c' = c1 ∧ r' = r1 ∧ i' = i then v else (if c' = c ∧ r' = r then f else G.2.1 c' r') i') = (if c' = c ∧ r' = r then f else fun i' => if c' = c1 ∧ r' = r1 ∧ i' = i then v else G.2.1 c' r' i') i'
  by_cases q : c' = c ∧ r' = r
  · rw [if_pos q, if_pos q, if_neg (fun z => h (by rw [← q.1, z.1]))]
  · rw [if_neg q, if_neg q]
theorem uA_comm (G : PH) (c c1 : Nat) (r r1 : Int) (f g : Int → Int) (h : c ≠ c1) : uA (uA G c r f) c1 r1 g = uA (uA G c1 r1 g) c r f := by
  unfold uA
  refine Prod.ext rfl (Prod.ext ?_ rfl)
  funext c' r'
  show (if c' = c1 ∧ r' = r1 then g else if c' = c ∧ r' = r then f else G.2.1 c' r') = (if c' = c ∧ r' = r then f else if c' = c1 ∧ r' = r1 then g else G.2.1 c' r')
  by_cases q : c' = c ∧ r' = r
  · rw [if_pos q, if_pos q, if_neg (fun z => h (by rw [← q.1, z.1]))]
  · rw [if_neg q, if_neg q]
theorem uA_abs (G : PH) (c c1 : Nat) (r r1 : Int) (f f' g : Int → Int) (h : c ≠ c1) : uA (uA (uA G c r f) c1 r1 g) c r f' = uA (uA G c r f') c1 r1 g := by
  rw [uA_comm _ c c1 r r1 f g h, uA_uA, uA_comm _ c1 c r1 r g f' (Ne.symm h)]
theorem uA_abs2 (G : PH) (c c1 c2 : Nat) (r r1 r2 : Int) (f f' g g2 : Int → Int) (h : c ≠ c1) (h2 : c ≠ c2) : uA (uA (uA (uA G c r f) c1 r1 g) c2 r2 g2) c r f' = uA (uA (uA G c r f') c1 r1 g) c2 r2 g2 := by
  rw [uA_comm _ c2 c r2 r g2 f' (Ne.symm h2), uA_abs _ _ _ _ _ _ _ _ h]

theorem wd_f2_11 : Cond.fieldLink "NameRolls$Land" 11 "NameRolls$Land" "sides" "[I" ∈ UW := UW1_at 36 (by decide +kernel) rfl
theorem wd_f2_15 : Cond.fieldLink "NameRolls$Land" 15 "NameRolls$Land" "beds" "[I" ∈ UW := UW1_at 38 (by decide +kernel) rfl
theorem wd_m2_43 : Cond.methodLink "NameRolls$Land" 43 M_X2_isPoint.1 ∈ UW := UW3_at 77 (by decide +kernel) rfl
theorem wd_s2_isPoint : Cond.selects M_X2_isPoint.1.cls M_X2_isPoint.1 M_X2_isPoint.1 ∈ UW := UW3_at 79 (by decide +kernel) rfl
theorem wd_f2_18 : Cond.fieldLink "NameRolls$Land" 18 "NameRolls$Land" "roads" "[I" ∈ UW := UW1_at 42 (by decide +kernel) rfl
theorem wd_m2_46 : Cond.methodLink "NameRolls$Land" 46 Lib.Math.min.name ∈ UW := UW3_at 85 (by decide +kernel) rfl
theorem wd_f2_21 : Cond.fieldLink "NameRolls$Land" 21 "NameRolls$Land" "distance" "[I" ∈ UW := UW1_at 43 (by decide +kernel) rfl
theorem wd_f2_24 : Cond.fieldLink "NameRolls$Land" 24 "NameRolls$Land" "settled" "[Z" ∈ UW := UW1_at 44 (by decide +kernel) rfl
theorem wd_c2_52 : Cond.constant "NameRolls$Land" 52 (Int32.ofInt 1000000000) ∈ UW := UW3_at 96 (by decide +kernel) rfl
theorem wd_m2_53 : Cond.methodLink "NameRolls$Land" 53 M_X2_leadOn.1 ∈ UW := UW3_at 97 (by decide +kernel) rfl
theorem wd_s2_leadOn : Cond.selects M_X2_leadOn.1.cls M_X2_leadOn.1 M_X2_leadOn.1 ∈ UW := UWp_at 4 (by decide +kernel) rfl
theorem wd_m2_57 : Cond.methodLink "NameRolls$Land" 57 M_X2_nearest.1 ∈ UW := UW3_at 101 (by decide +kernel) rfl
theorem wd_s2_nearest : Cond.selects M_X2_nearest.1.cls M_X2_nearest.1 M_X2_nearest.1 ∈ UW := UWp_at 5 (by decide +kernel) rfl
theorem wd_f12_112 : Cond.fieldLink "NameRollsModel" 112 "NameRollsModel" "apart" "[I" ∈ UW := UW7_at 111 (by decide +kernel) rfl
theorem wd_f12_16 : Cond.fieldLink "NameRollsModel" 16 "NameRollsModel" "road" "[I" ∈ UW := UW7_at 72 (by decide +kernel) rfl
theorem wd_f12_9 : Cond.fieldLink "NameRollsModel" 9 "NameRollsModel" "campSide" "[I" ∈ UW := UW7_at 69 (by decide +kernel) rfl
theorem wd_c12_260 : Cond.constant "NameRollsModel" 260 (Int32.ofInt 100000) ∈ UW := UW8_at 186 (by decide +kernel) rfl
theorem wd_m12_257 : Cond.methodLink "NameRollsModel" 257 M_X12_isPoint.1 ∈ UW := UW8_at 170 (by decide +kernel) rfl
theorem wd_s12_isPoint : Cond.selects M_X12_isPoint.1.cls M_X12_isPoint.1 M_X12_isPoint.1 ∈ UW := UWp_at 58 (by decide +kernel) rfl
theorem wd_m12_261 : Cond.methodLink "NameRollsModel" 261 M_X12_farOf.1 ∈ UW := UW8_at 182 (by decide +kernel) rfl
theorem wd_s12_farOf : Cond.selects M_X12_farOf.1.cls M_X12_farOf.1 M_X12_farOf.1 ∈ UW := UWp_at 60 (by decide +kernel) rfl
theorem wd_m12_254 : Cond.methodLink "NameRollsModel" 254 M_X12_isSide.1 ∈ UW := UW8_at 160 (by decide +kernel) rfl
theorem wd_f12_13 : Cond.fieldLink "NameRollsModel" 13 "NameRollsModel" "beds" "[I" ∈ UW := UW7_at 70 (by decide +kernel) rfl
theorem r_2_addCamp_0 : RL M_X2_addCamp 0 1 1 := Or.inl ⟨1, by decide +kernel, rfl, rfl⟩
theorem r_2_addCamp_1 : RKs M_X2_addCamp M_X11_isSide 1 1 4 := ⟨36, by decide +kernel, Or.inr (by decide +kernel), ok_M_X11_isSide, rfl⟩
theorem r_2_addCamp_4 : RB M_X2_addCamp 4 (.ifCond .eq) 17 7 := ⟨13, by decide +kernel, rfl, rfl⟩
theorem r_2_addCamp_17 : RC M_X2_addCamp 17 (-1) 18 := ⟨⟨by decide, by decide⟩, Or.inl ⟨by decide +kernel, rfl⟩⟩
theorem r_2_addCamp_18 : RW M_X2_addCamp 18 .ireturn 19 1 := ⟨by decide +kernel, rfl⟩
theorem r_2_addCamp_7 : RL M_X2_addCamp 7 2 8 := Or.inl ⟨2, by decide +kernel, rfl, rfl⟩
theorem r_2_addCamp_8 : RC M_X2_addCamp 8 1 9 := ⟨⟨by decide, by decide⟩, Or.inl ⟨by decide +kernel, rfl⟩⟩
theorem r_2_addCamp_9 : RC M_X2_addCamp 9 99 11 := ⟨⟨by decide, by decide⟩, Or.inr (Or.inl ⟨by decide +kernel, by decide, rfl⟩)⟩
theorem r_2_addCamp_11 : RKs M_X2_addCamp M_X11_within 11 3 14 := ⟨39, by decide +kernel, Or.inr (by decide +kernel), ok_M_X11_within, rfl⟩
theorem r_2_addCamp_14 : RB M_X2_addCamp 14 (.ifCond .ne) 19 17 := ⟨5, by decide +kernel, rfl, rfl⟩
theorem r_2_addCamp_19 : RA M_X2_addCamp 19 0 20 := Or.inl ⟨0, by decide +kernel, rfl, rfl⟩
theorem r_2_addCamp_20 : RG M_X2_addCamp 20 2 2 23 := ⟨28, _, by decide +kernel, rfl, by decide, wd_f2_28, rfl, rfl⟩
theorem r_2_addCamp_23 : RC M_X2_addCamp 23 16 25 := ⟨⟨by decide, by decide⟩, Or.inr (Or.inl ⟨by decide +kernel, by decide, rfl⟩)⟩
theorem r_2_addCamp_25 : RB M_X2_addCamp 25 (.if_icmp .lt) 31 28 := ⟨6, by decide +kernel, rfl, rfl⟩
theorem r_2_addCamp_31 : RA M_X2_addCamp 31 0 32 := Or.inl ⟨0, by decide +kernel, rfl, rfl⟩
theorem r_2_addCamp_32 : RG M_X2_addCamp 32 2 0 35 := ⟨11, _, by decide +kernel, rfl, by decide, wd_f2_11, rfl, rfl⟩
theorem r_2_addCamp_35 : RA M_X2_addCamp 35 0 36 := Or.inl ⟨0, by decide +kernel, rfl, rfl⟩
theorem r_2_addCamp_36 : RG M_X2_addCamp 36 2 2 39 := ⟨28, _, by decide +kernel, rfl, by decide, wd_f2_28, rfl, rfl⟩
theorem r_2_addCamp_39 : RL M_X2_addCamp 39 1 40 := Or.inl ⟨1, by decide +kernel, rfl, rfl⟩
theorem r_2_addCamp_40 : RW M_X2_addCamp 40 .iastore 41 1 := ⟨by decide +kernel, rfl⟩
theorem r_2_addCamp_41 : RA M_X2_addCamp 41 0 42 := Or.inl ⟨0, by decide +kernel, rfl, rfl⟩
theorem r_2_addCamp_42 : RG M_X2_addCamp 42 2 1 45 := ⟨15, _, by decide +kernel, rfl, by decide, wd_f2_15, rfl, rfl⟩
theorem r_2_addCamp_45 : RA M_X2_addCamp 45 0 46 := Or.inl ⟨0, by decide +kernel, rfl, rfl⟩
theorem r_2_addCamp_46 : RG M_X2_addCamp 46 2 2 49 := ⟨28, _, by decide +kernel, rfl, by decide, wd_f2_28, rfl, rfl⟩
theorem r_2_addCamp_49 : RL M_X2_addCamp 49 2 50 := Or.inl ⟨2, by decide +kernel, rfl, rfl⟩
theorem r_2_addCamp_50 : RW M_X2_addCamp 50 .iastore 51 1 := ⟨by decide +kernel, rfl⟩
theorem r_2_addCamp_51 : RA M_X2_addCamp 51 0 52 := Or.inl ⟨0, by decide +kernel, rfl, rfl⟩
theorem r_2_addCamp_52 : RW M_X2_addCamp 52 .dup 53 1 := ⟨by decide +kernel, rfl⟩
theorem r_2_addCamp_53 : RG M_X2_addCamp 53 2 2 56 := ⟨28, _, by decide +kernel, rfl, by decide, wd_f2_28, rfl, rfl⟩
theorem r_2_addCamp_56 : RC M_X2_addCamp 56 1 57 := ⟨⟨by decide, by decide⟩, Or.inl ⟨by decide +kernel, rfl⟩⟩
theorem r_2_addCamp_57 : RW M_X2_addCamp 57 .iadd 58 1 := ⟨by decide +kernel, rfl⟩
theorem r_2_addCamp_58 : RP M_X2_addCamp 58 2 2 61 := ⟨28, _, by decide +kernel, rfl, by decide, wd_f2_28, rfl, Or.inl rfl, rfl⟩
theorem r_2_addCamp_61 : RA M_X2_addCamp 61 0 62 := Or.inl ⟨0, by decide +kernel, rfl, rfl⟩
theorem r_2_addCamp_62 : RG M_X2_addCamp 62 2 2 65 := ⟨28, _, by decide +kernel, rfl, by decide, wd_f2_28, rfl, rfl⟩
theorem r_2_addCamp_65 : RC M_X2_addCamp 65 1 66 := ⟨⟨by decide, by decide⟩, Or.inl ⟨by decide +kernel, rfl⟩⟩
theorem r_2_addCamp_66 : RW M_X2_addCamp 66 .isub 67 1 := ⟨by decide +kernel, rfl⟩
theorem r_2_addCamp_67 : RW M_X2_addCamp 67 .ireturn 68 1 := ⟨by decide +kernel, rfl⟩
theorem r_2_addCamp_28 : RC M_X2_addCamp 28 (-2) 30 := ⟨⟨by decide, by decide⟩, Or.inr (Or.inl ⟨by decide +kernel, by decide, rfl⟩)⟩
theorem r_2_addCamp_30 : RW M_X2_addCamp 30 .ireturn 31 1 := ⟨by decide +kernel, rfl⟩
theorem r_2_addRoad_0 : RA M_X2_addRoad 0 0 1 := Or.inl ⟨0, by decide +kernel, rfl, rfl⟩
theorem r_2_addRoad_1 : RL M_X2_addRoad 1 1 2 := Or.inl ⟨1, by decide +kernel, rfl, rfl⟩
theorem r_2_addRoad_2 : RKv M_X2_addRoad M_X2_isPoint 2 1 2 5 := ⟨43, by decide +kernel, wd_m2_43, ok_M_X2_isPoint, wd_s2_isPoint, rfl⟩
theorem r_2_addRoad_5 : RB M_X2_addRoad 5 (.ifCond .eq) 31 8 := ⟨26, by decide +kernel, rfl, rfl⟩
theorem r_2_addRoad_31 : RC M_X2_addRoad 31 (-1) 32 := ⟨⟨by decide, by decide⟩, Or.inl ⟨by decide +kernel, rfl⟩⟩
theorem r_2_addRoad_32 : RW M_X2_addRoad 32 .ireturn 33 1 := ⟨by decide +kernel, rfl⟩
theorem r_2_addRoad_8 : RA M_X2_addRoad 8 0 9 := Or.inl ⟨0, by decide +kernel, rfl, rfl⟩
theorem r_2_addRoad_9 : RL M_X2_addRoad 9 2 10 := Or.inl ⟨2, by decide +kernel, rfl, rfl⟩
theorem r_2_addRoad_10 : RKv M_X2_addRoad M_X2_isPoint 10 1 2 13 := ⟨43, by decide +kernel, wd_m2_43, ok_M_X2_isPoint, wd_s2_isPoint, rfl⟩
theorem r_2_addRoad_13 : RB M_X2_addRoad 13 (.ifCond .eq) 31 16 := ⟨18, by decide +kernel, rfl, rfl⟩
theorem r_2_addRoad_16 : RL M_X2_addRoad 16 1 17 := Or.inl ⟨1, by decide +kernel, rfl, rfl⟩
theorem r_2_addRoad_17 : RL M_X2_addRoad 17 2 18 := Or.inl ⟨2, by decide +kernel, rfl, rfl⟩
theorem r_2_addRoad_18 : RB M_X2_addRoad 18 (.if_icmp .eq) 31 21 := ⟨13, by decide +kernel, rfl, rfl⟩
theorem r_2_addRoad_21 : RL M_X2_addRoad 21 3 22 := Or.inl ⟨3, by decide +kernel, rfl, rfl⟩
theorem r_2_addRoad_22 : RC M_X2_addRoad 22 1 23 := ⟨⟨by decide, by decide⟩, Or.inl ⟨by decide +kernel, rfl⟩⟩
theorem r_2_addRoad_23 : RC M_X2_addRoad 23 9 25 := ⟨⟨by decide, by decide⟩, Or.inr (Or.inl ⟨by decide +kernel, by decide, rfl⟩)⟩
theorem r_2_addRoad_25 : RKs M_X2_addRoad M_X11_within 25 3 28 := ⟨39, by decide +kernel, Or.inr (by decide +kernel), ok_M_X11_within, rfl⟩
theorem r_2_addRoad_28 : RB M_X2_addRoad 28 (.ifCond .ne) 33 31 := ⟨5, by decide +kernel, rfl, rfl⟩
theorem r_2_addRoad_33 : RA M_X2_addRoad 33 0 34 := Or.inl ⟨0, by decide +kernel, rfl, rfl⟩
theorem r_2_addRoad_34 : RL M_X2_addRoad 34 1 35 := Or.inl ⟨1, by decide +kernel, rfl, rfl⟩
theorem r_2_addRoad_35 : RKv M_X2_addRoad M_X2_isCamp 35 1 2 38 := ⟨32, by decide +kernel, wd_m2_32, ok_M_X2_isCamp, wd_s2_isCamp, rfl⟩
theorem r_2_addRoad_38 : RB M_X2_addRoad 38 (.ifCond .eq) 66 41 := ⟨28, by decide +kernel, rfl, rfl⟩
theorem r_2_addRoad_66 : RA M_X2_addRoad 66 0 67 := Or.inl ⟨0, by decide +kernel, rfl, rfl⟩
theorem r_2_addRoad_67 : RG M_X2_addRoad 67 2 3 70 := ⟨18, _, by decide +kernel, rfl, by decide, wd_f2_18, rfl, rfl⟩
theorem r_2_addRoad_70 : RL M_X2_addRoad 70 1 71 := Or.inl ⟨1, by decide +kernel, rfl, rfl⟩
theorem r_2_addRoad_71 : RC M_X2_addRoad 71 18 73 := ⟨⟨by decide, by decide⟩, Or.inr (Or.inl ⟨by decide +kernel, by decide, rfl⟩)⟩
theorem r_2_addRoad_73 : RW M_X2_addRoad 73 .imul 74 1 := ⟨by decide +kernel, rfl⟩
theorem r_2_addRoad_74 : RL M_X2_addRoad 74 2 75 := Or.inl ⟨2, by decide +kernel, rfl, rfl⟩
theorem r_2_addRoad_75 : RW M_X2_addRoad 75 .iadd 76 1 := ⟨by decide +kernel, rfl⟩
theorem r_2_addRoad_76 : RW M_X2_addRoad 76 .iaload 77 1 := ⟨by decide +kernel, rfl⟩
theorem r_2_addRoad_77 : RS M_X2_addRoad 77 4 79 := ⟨by decide, Or.inr ⟨by decide +kernel, rfl⟩⟩
theorem r_2_addRoad_79 : RL M_X2_addRoad 79 4 81 := Or.inr ⟨by decide +kernel, rfl⟩
theorem r_2_addRoad_81 : RB M_X2_addRoad 81 (.ifCond .ne) 88 84 := ⟨7, by decide +kernel, rfl, rfl⟩
theorem r_2_addRoad_88 : RL M_X2_addRoad 88 4 90 := Or.inr ⟨by decide +kernel, rfl⟩
theorem r_2_addRoad_90 : RL M_X2_addRoad 90 3 91 := Or.inl ⟨3, by decide +kernel, rfl, rfl⟩
theorem r_2_addRoad_91 : RKm M_X2_addRoad 91 Lib.Math.min.name 94 := ⟨46, by decide +kernel, wd_m2_46, rfl⟩
theorem r_2_addRoad_94 : RS M_X2_addRoad 94 5 96 := ⟨by decide, Or.inr ⟨by decide +kernel, rfl⟩⟩
theorem r_2_addRoad_96 : RA M_X2_addRoad 96 0 97 := Or.inl ⟨0, by decide +kernel, rfl, rfl⟩
theorem r_2_addRoad_97 : RG M_X2_addRoad 97 2 3 100 := ⟨18, _, by decide +kernel, rfl, by decide, wd_f2_18, rfl, rfl⟩
theorem r_2_addRoad_100 : RL M_X2_addRoad 100 1 101 := Or.inl ⟨1, by decide +kernel, rfl, rfl⟩
theorem r_2_addRoad_101 : RC M_X2_addRoad 101 18 103 := ⟨⟨by decide, by decide⟩, Or.inr (Or.inl ⟨by decide +kernel, by decide, rfl⟩)⟩
theorem r_2_addRoad_103 : RW M_X2_addRoad 103 .imul 104 1 := ⟨by decide +kernel, rfl⟩
theorem r_2_addRoad_104 : RL M_X2_addRoad 104 2 105 := Or.inl ⟨2, by decide +kernel, rfl, rfl⟩
theorem r_2_addRoad_105 : RW M_X2_addRoad 105 .iadd 106 1 := ⟨by decide +kernel, rfl⟩
theorem r_2_addRoad_106 : RL M_X2_addRoad 106 5 108 := Or.inr ⟨by decide +kernel, rfl⟩
theorem r_2_addRoad_108 : RW M_X2_addRoad 108 .iastore 109 1 := ⟨by decide +kernel, rfl⟩
theorem r_2_addRoad_109 : RA M_X2_addRoad 109 0 110 := Or.inl ⟨0, by decide +kernel, rfl, rfl⟩
theorem r_2_addRoad_110 : RG M_X2_addRoad 110 2 3 113 := ⟨18, _, by decide +kernel, rfl, by decide, wd_f2_18, rfl, rfl⟩
theorem r_2_addRoad_113 : RL M_X2_addRoad 113 2 114 := Or.inl ⟨2, by decide +kernel, rfl, rfl⟩
theorem r_2_addRoad_114 : RC M_X2_addRoad 114 18 116 := ⟨⟨by decide, by decide⟩, Or.inr (Or.inl ⟨by decide +kernel, by decide, rfl⟩)⟩
theorem r_2_addRoad_116 : RW M_X2_addRoad 116 .imul 117 1 := ⟨by decide +kernel, rfl⟩
theorem r_2_addRoad_117 : RL M_X2_addRoad 117 1 118 := Or.inl ⟨1, by decide +kernel, rfl, rfl⟩
theorem r_2_addRoad_118 : RW M_X2_addRoad 118 .iadd 119 1 := ⟨by decide +kernel, rfl⟩
theorem r_2_addRoad_119 : RL M_X2_addRoad 119 5 121 := Or.inr ⟨by decide +kernel, rfl⟩
theorem r_2_addRoad_121 : RW M_X2_addRoad 121 .iastore 122 1 := ⟨by decide +kernel, rfl⟩
theorem r_2_addRoad_122 : RL M_X2_addRoad 122 5 124 := Or.inr ⟨by decide +kernel, rfl⟩
theorem r_2_addRoad_124 : RW M_X2_addRoad 124 .ireturn 125 1 := ⟨by decide +kernel, rfl⟩
theorem r_2_addRoad_84 : RL M_X2_addRoad 84 3 85 := Or.inl ⟨3, by decide +kernel, rfl, rfl⟩
theorem r_2_addRoad_85 : RB M_X2_addRoad 85 .goto 94 88 := ⟨9, by decide +kernel, rfl, rfl⟩
theorem r_2_addRoad_41 : RA M_X2_addRoad 41 0 42 := Or.inl ⟨0, by decide +kernel, rfl, rfl⟩
theorem r_2_addRoad_42 : RL M_X2_addRoad 42 2 43 := Or.inl ⟨2, by decide +kernel, rfl, rfl⟩
theorem r_2_addRoad_43 : RKv M_X2_addRoad M_X2_isCamp 43 1 2 46 := ⟨32, by decide +kernel, wd_m2_32, ok_M_X2_isCamp, wd_s2_isCamp, rfl⟩
theorem r_2_addRoad_46 : RB M_X2_addRoad 46 (.ifCond .eq) 66 49 := ⟨20, by decide +kernel, rfl, rfl⟩
theorem r_2_addRoad_49 : RA M_X2_addRoad 49 0 50 := Or.inl ⟨0, by decide +kernel, rfl, rfl⟩
theorem r_2_addRoad_50 : RG M_X2_addRoad 50 2 0 53 := ⟨11, _, by decide +kernel, rfl, by decide, wd_f2_11, rfl, rfl⟩
theorem r_2_addRoad_53 : RL M_X2_addRoad 53 1 54 := Or.inl ⟨1, by decide +kernel, rfl, rfl⟩
theorem r_2_addRoad_54 : RW M_X2_addRoad 54 .iaload 55 1 := ⟨by decide +kernel, rfl⟩
theorem r_2_addRoad_55 : RA M_X2_addRoad 55 0 56 := Or.inl ⟨0, by decide +kernel, rfl, rfl⟩
theorem r_2_addRoad_56 : RG M_X2_addRoad 56 2 0 59 := ⟨11, _, by decide +kernel, rfl, by decide, wd_f2_11, rfl, rfl⟩
theorem r_2_addRoad_59 : RL M_X2_addRoad 59 2 60 := Or.inl ⟨2, by decide +kernel, rfl, rfl⟩
theorem r_2_addRoad_60 : RW M_X2_addRoad 60 .iaload 61 1 := ⟨by decide +kernel, rfl⟩
theorem r_2_addRoad_61 : RB M_X2_addRoad 61 (.if_icmp .eq) 66 64 := ⟨5, by decide +kernel, rfl, rfl⟩
theorem r_2_addRoad_64 : RC M_X2_addRoad 64 (-1) 65 := ⟨⟨by decide, by decide⟩, Or.inl ⟨by decide +kernel, rfl⟩⟩
theorem r_2_addRoad_65 : RW M_X2_addRoad 65 .ireturn 66 1 := ⟨by decide +kernel, rfl⟩
theorem r_2_leadOn_0 : RC M_X2_leadOn 0 0 1 := ⟨⟨by decide, by decide⟩, Or.inl ⟨by decide +kernel, rfl⟩⟩
theorem r_2_leadOn_1 : RS M_X2_leadOn 1 2 2 := ⟨by decide, Or.inl ⟨2, by decide +kernel, rfl, rfl⟩⟩
theorem r_2_leadOn_2 : RL M_X2_leadOn 2 2 3 := Or.inl ⟨2, by decide +kernel, rfl, rfl⟩
theorem r_2_leadOn_3 : RC M_X2_leadOn 3 18 5 := ⟨⟨by decide, by decide⟩, Or.inr (Or.inl ⟨by decide +kernel, by decide, rfl⟩)⟩
theorem r_2_leadOn_5 : RB M_X2_leadOn 5 (.if_icmp .ge) 53 8 := ⟨48, by decide +kernel, rfl, rfl⟩
theorem r_2_leadOn_53 : RW M_X2_leadOn 53 .return_ 54 1 := ⟨by decide +kernel, rfl⟩
theorem r_2_leadOn_8 : RA M_X2_leadOn 8 0 9 := Or.inl ⟨0, by decide +kernel, rfl, rfl⟩
theorem r_2_leadOn_9 : RG M_X2_leadOn 9 2 3 12 := ⟨18, _, by decide +kernel, rfl, by decide, wd_f2_18, rfl, rfl⟩
theorem r_2_leadOn_12 : RL M_X2_leadOn 12 1 13 := Or.inl ⟨1, by decide +kernel, rfl, rfl⟩
theorem r_2_leadOn_13 : RC M_X2_leadOn 13 18 15 := ⟨⟨by decide, by decide⟩, Or.inr (Or.inl ⟨by decide +kernel, by decide, rfl⟩)⟩
theorem r_2_leadOn_15 : RW M_X2_leadOn 15 .imul 16 1 := ⟨by decide +kernel, rfl⟩
theorem r_2_leadOn_16 : RL M_X2_leadOn 16 2 17 := Or.inl ⟨2, by decide +kernel, rfl, rfl⟩
theorem r_2_leadOn_17 : RW M_X2_leadOn 17 .iadd 18 1 := ⟨by decide +kernel, rfl⟩
theorem r_2_leadOn_18 : RW M_X2_leadOn 18 .iaload 19 1 := ⟨by decide +kernel, rfl⟩
theorem r_2_leadOn_19 : RS M_X2_leadOn 19 3 20 := ⟨by decide, Or.inl ⟨3, by decide +kernel, rfl, rfl⟩⟩
theorem r_2_leadOn_20 : RL M_X2_leadOn 20 3 21 := Or.inl ⟨3, by decide +kernel, rfl, rfl⟩
theorem r_2_leadOn_21 : RB M_X2_leadOn 21 (.ifCond .le) 47 24 := ⟨26, by decide +kernel, rfl, rfl⟩
theorem r_2_leadOn_47 : RI M_X2_leadOn 47 2 1 50 := ⟨by decide, by decide +kernel, rfl⟩
theorem r_2_leadOn_50 : RB M_X2_leadOn 50 .goto 2 53 := ⟨(-48), by decide +kernel, rfl, rfl⟩
theorem r_2_leadOn_24 : RA M_X2_leadOn 24 0 25 := Or.inl ⟨0, by decide +kernel, rfl, rfl⟩
theorem r_2_leadOn_25 : RG M_X2_leadOn 25 2 4 28 := ⟨21, _, by decide +kernel, rfl, by decide, wd_f2_21, rfl, rfl⟩
theorem r_2_leadOn_28 : RL M_X2_leadOn 28 2 29 := Or.inl ⟨2, by decide +kernel, rfl, rfl⟩
theorem r_2_leadOn_29 : RA M_X2_leadOn 29 0 30 := Or.inl ⟨0, by decide +kernel, rfl, rfl⟩
theorem r_2_leadOn_30 : RG M_X2_leadOn 30 2 4 33 := ⟨21, _, by decide +kernel, rfl, by decide, wd_f2_21, rfl, rfl⟩
theorem r_2_leadOn_33 : RL M_X2_leadOn 33 2 34 := Or.inl ⟨2, by decide +kernel, rfl, rfl⟩
theorem r_2_leadOn_34 : RW M_X2_leadOn 34 .iaload 35 1 := ⟨by decide +kernel, rfl⟩
theorem r_2_leadOn_35 : RA M_X2_leadOn 35 0 36 := Or.inl ⟨0, by decide +kernel, rfl, rfl⟩
theorem r_2_leadOn_36 : RG M_X2_leadOn 36 2 4 39 := ⟨21, _, by decide +kernel, rfl, by decide, wd_f2_21, rfl, rfl⟩
theorem r_2_leadOn_39 : RL M_X2_leadOn 39 1 40 := Or.inl ⟨1, by decide +kernel, rfl, rfl⟩
theorem r_2_leadOn_40 : RW M_X2_leadOn 40 .iaload 41 1 := ⟨by decide +kernel, rfl⟩
theorem r_2_leadOn_41 : RL M_X2_leadOn 41 3 42 := Or.inl ⟨3, by decide +kernel, rfl, rfl⟩
theorem r_2_leadOn_42 : RW M_X2_leadOn 42 .iadd 43 1 := ⟨by decide +kernel, rfl⟩
theorem r_2_leadOn_43 : RKm M_X2_leadOn 43 Lib.Math.min.name 46 := ⟨46, by decide +kernel, wd_m2_46, rfl⟩
theorem r_2_leadOn_46 : RW M_X2_leadOn 46 .iastore 47 1 := ⟨by decide +kernel, rfl⟩
theorem r_2_nearest_0 : RC M_X2_nearest 0 (-1) 1 := ⟨⟨by decide, by decide⟩, Or.inl ⟨by decide +kernel, rfl⟩⟩
theorem r_2_nearest_1 : RS M_X2_nearest 1 1 2 := ⟨by decide, Or.inl ⟨1, by decide +kernel, rfl, rfl⟩⟩
theorem r_2_nearest_2 : RC M_X2_nearest 2 0 3 := ⟨⟨by decide, by decide⟩, Or.inl ⟨by decide +kernel, rfl⟩⟩
theorem r_2_nearest_3 : RS M_X2_nearest 3 2 4 := ⟨by decide, Or.inl ⟨2, by decide +kernel, rfl, rfl⟩⟩
theorem r_2_nearest_4 : RL M_X2_nearest 4 2 5 := Or.inl ⟨2, by decide +kernel, rfl, rfl⟩
theorem r_2_nearest_5 : RC M_X2_nearest 5 18 7 := ⟨⟨by decide, by decide⟩, Or.inr (Or.inl ⟨by decide +kernel, by decide, rfl⟩)⟩
theorem r_2_nearest_7 : RB M_X2_nearest 7 (.if_icmp .ge) 57 10 := ⟨50, by decide +kernel, rfl, rfl⟩
theorem r_2_nearest_57 : RL M_X2_nearest 57 1 58 := Or.inl ⟨1, by decide +kernel, rfl, rfl⟩
theorem r_2_nearest_58 : RW M_X2_nearest 58 .ireturn 59 1 := ⟨by decide +kernel, rfl⟩
theorem r_2_nearest_10 : RA M_X2_nearest 10 0 11 := Or.inl ⟨0, by decide +kernel, rfl, rfl⟩
theorem r_2_nearest_11 : RG M_X2_nearest 11 2 5 14 := ⟨24, _, by decide +kernel, rfl, by decide, wd_f2_24, rfl, rfl⟩
theorem r_2_nearest_14 : RL M_X2_nearest 14 2 15 := Or.inl ⟨2, by decide +kernel, rfl, rfl⟩
theorem r_2_nearest_15 : RW M_X2_nearest 15 .baload 16 1 := ⟨by decide +kernel, rfl⟩
theorem r_2_nearest_16 : RB M_X2_nearest 16 (.ifCond .ne) 51 19 := ⟨35, by decide +kernel, rfl, rfl⟩
theorem r_2_nearest_51 : RI M_X2_nearest 51 2 1 54 := ⟨by decide, by decide +kernel, rfl⟩
theorem r_2_nearest_54 : RB M_X2_nearest 54 .goto 4 57 := ⟨(-50), by decide +kernel, rfl, rfl⟩
theorem r_2_nearest_19 : RA M_X2_nearest 19 0 20 := Or.inl ⟨0, by decide +kernel, rfl, rfl⟩
theorem r_2_nearest_20 : RG M_X2_nearest 20 2 4 23 := ⟨21, _, by decide +kernel, rfl, by decide, wd_f2_21, rfl, rfl⟩
theorem r_2_nearest_23 : RL M_X2_nearest 23 2 24 := Or.inl ⟨2, by decide +kernel, rfl, rfl⟩
theorem r_2_nearest_24 : RW M_X2_nearest 24 .iaload 25 1 := ⟨by decide +kernel, rfl⟩
theorem r_2_nearest_25 : RC M_X2_nearest 25 1000000000 27 := ⟨⟨by decide, by decide⟩, Or.inr (Or.inr (Or.inr (Or.inl ⟨52, by decide +kernel, wd_c2_52, rfl⟩)))⟩
theorem r_2_nearest_27 : RB M_X2_nearest 27 (.if_icmp .ge) 51 30 := ⟨24, by decide +kernel, rfl, rfl⟩
theorem r_2_nearest_30 : RL M_X2_nearest 30 1 31 := Or.inl ⟨1, by decide +kernel, rfl, rfl⟩
theorem r_2_nearest_31 : RB M_X2_nearest 31 (.ifCond .lt) 49 34 := ⟨18, by decide +kernel, rfl, rfl⟩
theorem r_2_nearest_49 : RL M_X2_nearest 49 2 50 := Or.inl ⟨2, by decide +kernel, rfl, rfl⟩
theorem r_2_nearest_50 : RS M_X2_nearest 50 1 51 := ⟨by decide, Or.inl ⟨1, by decide +kernel, rfl, rfl⟩⟩
theorem r_2_nearest_34 : RA M_X2_nearest 34 0 35 := Or.inl ⟨0, by decide +kernel, rfl, rfl⟩
theorem r_2_nearest_35 : RG M_X2_nearest 35 2 4 38 := ⟨21, _, by decide +kernel, rfl, by decide, wd_f2_21, rfl, rfl⟩
theorem r_2_nearest_38 : RL M_X2_nearest 38 2 39 := Or.inl ⟨2, by decide +kernel, rfl, rfl⟩
theorem r_2_nearest_39 : RW M_X2_nearest 39 .iaload 40 1 := ⟨by decide +kernel, rfl⟩
theorem r_2_nearest_40 : RA M_X2_nearest 40 0 41 := Or.inl ⟨0, by decide +kernel, rfl, rfl⟩
theorem r_2_nearest_41 : RG M_X2_nearest 41 2 4 44 := ⟨21, _, by decide +kernel, rfl, by decide, wd_f2_21, rfl, rfl⟩
theorem r_2_nearest_44 : RL M_X2_nearest 44 1 45 := Or.inl ⟨1, by decide +kernel, rfl, rfl⟩
theorem r_2_nearest_45 : RW M_X2_nearest 45 .iaload 46 1 := ⟨by decide +kernel, rfl⟩
theorem r_2_nearest_46 : RB M_X2_nearest 46 (.if_icmp .ge) 51 49 := ⟨5, by decide +kernel, rfl, rfl⟩
theorem r_2_farFrom_0 : RA M_X2_farFrom 0 0 1 := Or.inl ⟨0, by decide +kernel, rfl, rfl⟩
theorem r_2_farFrom_1 : RL M_X2_farFrom 1 1 2 := Or.inl ⟨1, by decide +kernel, rfl, rfl⟩
theorem r_2_farFrom_2 : RKv M_X2_farFrom M_X2_isCamp 2 1 2 5 := ⟨32, by decide +kernel, wd_m2_32, ok_M_X2_isCamp, wd_s2_isCamp, rfl⟩
theorem r_2_farFrom_5 : RB M_X2_farFrom 5 (.ifCond .eq) 16 8 := ⟨11, by decide +kernel, rfl, rfl⟩
theorem r_2_farFrom_16 : RC M_X2_farFrom 16 (-1) 17 := ⟨⟨by decide, by decide⟩, Or.inl ⟨by decide +kernel, rfl⟩⟩
theorem r_2_farFrom_17 : RW M_X2_farFrom 17 .ireturn 18 1 := ⟨by decide +kernel, rfl⟩
theorem r_2_farFrom_8 : RA M_X2_farFrom 8 0 9 := Or.inl ⟨0, by decide +kernel, rfl, rfl⟩
theorem r_2_farFrom_9 : RL M_X2_farFrom 9 2 10 := Or.inl ⟨2, by decide +kernel, rfl, rfl⟩
theorem r_2_farFrom_10 : RKv M_X2_farFrom M_X2_isPoint 10 1 2 13 := ⟨43, by decide +kernel, wd_m2_43, ok_M_X2_isPoint, wd_s2_isPoint, rfl⟩
theorem r_2_farFrom_13 : RB M_X2_farFrom 13 (.ifCond .ne) 18 16 := ⟨5, by decide +kernel, rfl, rfl⟩
theorem r_2_farFrom_18 : RC M_X2_farFrom 18 0 19 := ⟨⟨by decide, by decide⟩, Or.inl ⟨by decide +kernel, rfl⟩⟩
theorem r_2_farFrom_19 : RS M_X2_farFrom 19 3 20 := ⟨by decide, Or.inl ⟨3, by decide +kernel, rfl, rfl⟩⟩
theorem r_2_farFrom_20 : RL M_X2_farFrom 20 3 21 := Or.inl ⟨3, by decide +kernel, rfl, rfl⟩
theorem r_2_farFrom_21 : RC M_X2_farFrom 21 18 23 := ⟨⟨by decide, by decide⟩, Or.inr (Or.inl ⟨by decide +kernel, by decide, rfl⟩)⟩
theorem r_2_farFrom_23 : RB M_X2_farFrom 23 (.if_icmp .ge) 47 26 := ⟨24, by decide +kernel, rfl, rfl⟩
theorem r_2_farFrom_47 : RA M_X2_farFrom 47 0 48 := Or.inl ⟨0, by decide +kernel, rfl, rfl⟩
theorem r_2_farFrom_48 : RG M_X2_farFrom 48 2 4 51 := ⟨21, _, by decide +kernel, rfl, by decide, wd_f2_21, rfl, rfl⟩
theorem r_2_farFrom_51 : RL M_X2_farFrom 51 1 52 := Or.inl ⟨1, by decide +kernel, rfl, rfl⟩
theorem r_2_farFrom_52 : RC M_X2_farFrom 52 0 53 := ⟨⟨by decide, by decide⟩, Or.inl ⟨by decide +kernel, rfl⟩⟩
theorem r_2_farFrom_53 : RW M_X2_farFrom 53 .iastore 54 1 := ⟨by decide +kernel, rfl⟩
theorem r_2_farFrom_54 : RL M_X2_farFrom 54 1 55 := Or.inl ⟨1, by decide +kernel, rfl, rfl⟩
theorem r_2_farFrom_55 : RS M_X2_farFrom 55 3 56 := ⟨by decide, Or.inl ⟨3, by decide +kernel, rfl, rfl⟩⟩
theorem r_2_farFrom_56 : RC M_X2_farFrom 56 0 57 := ⟨⟨by decide, by decide⟩, Or.inl ⟨by decide +kernel, rfl⟩⟩
theorem r_2_farFrom_57 : RS M_X2_farFrom 57 4 59 := ⟨by decide, Or.inr ⟨by decide +kernel, rfl⟩⟩
theorem r_2_farFrom_59 : RL M_X2_farFrom 59 4 61 := Or.inr ⟨by decide +kernel, rfl⟩
theorem r_2_farFrom_61 : RC M_X2_farFrom 61 18 63 := ⟨⟨by decide, by decide⟩, Or.inr (Or.inl ⟨by decide +kernel, by decide, rfl⟩)⟩
theorem r_2_farFrom_63 : RB M_X2_farFrom 63 (.if_icmp .ge) 122 66 := ⟨59, by decide +kernel, rfl, rfl⟩
theorem r_2_farFrom_122 : RA M_X2_farFrom 122 0 123 := Or.inl ⟨0, by decide +kernel, rfl, rfl⟩
theorem r_2_farFrom_123 : RG M_X2_farFrom 123 2 4 126 := ⟨21, _, by decide +kernel, rfl, by decide, wd_f2_21, rfl, rfl⟩
theorem r_2_farFrom_126 : RL M_X2_farFrom 126 2 127 := Or.inl ⟨2, by decide +kernel, rfl, rfl⟩
theorem r_2_farFrom_127 : RW M_X2_farFrom 127 .iaload 128 1 := ⟨by decide +kernel, rfl⟩
theorem r_2_farFrom_128 : RC M_X2_farFrom 128 1000000000 130 := ⟨⟨by decide, by decide⟩, Or.inr (Or.inr (Or.inr (Or.inl ⟨52, by decide +kernel, wd_c2_52, rfl⟩)))⟩
theorem r_2_farFrom_130 : RB M_X2_farFrom 130 (.if_icmp .lt) 138 133 := ⟨8, by decide +kernel, rfl, rfl⟩
theorem r_2_farFrom_138 : RA M_X2_farFrom 138 0 139 := Or.inl ⟨0, by decide +kernel, rfl, rfl⟩
theorem r_2_farFrom_139 : RG M_X2_farFrom 139 2 4 142 := ⟨21, _, by decide +kernel, rfl, by decide, wd_f2_21, rfl, rfl⟩
theorem r_2_farFrom_142 : RL M_X2_farFrom 142 2 143 := Or.inl ⟨2, by decide +kernel, rfl, rfl⟩
theorem r_2_farFrom_143 : RW M_X2_farFrom 143 .iaload 144 1 := ⟨by decide +kernel, rfl⟩
theorem r_2_farFrom_144 : RW M_X2_farFrom 144 .ireturn 145 1 := ⟨by decide +kernel, rfl⟩
theorem r_2_farFrom_133 : RC M_X2_farFrom 133 (-4) 135 := ⟨⟨by decide, by decide⟩, Or.inr (Or.inl ⟨by decide +kernel, by decide, rfl⟩)⟩
theorem r_2_farFrom_135 : RB M_X2_farFrom 135 .goto 144 138 := ⟨9, by decide +kernel, rfl, rfl⟩
theorem r_2_farFrom_66 : RL M_X2_farFrom 66 3 67 := Or.inl ⟨3, by decide +kernel, rfl, rfl⟩
theorem r_2_farFrom_67 : RB M_X2_farFrom 67 (.ifCond .lt) 122 70 := ⟨55, by decide +kernel, rfl, rfl⟩
theorem r_2_farFrom_70 : RL M_X2_farFrom 70 3 71 := Or.inl ⟨3, by decide +kernel, rfl, rfl⟩
theorem r_2_farFrom_71 : RC M_X2_farFrom 71 18 73 := ⟨⟨by decide, by decide⟩, Or.inr (Or.inl ⟨by decide +kernel, by decide, rfl⟩)⟩
theorem r_2_farFrom_73 : RB M_X2_farFrom 73 (.if_icmp .ge) 122 76 := ⟨49, by decide +kernel, rfl, rfl⟩
theorem r_2_farFrom_76 : RA M_X2_farFrom 76 0 77 := Or.inl ⟨0, by decide +kernel, rfl, rfl⟩
theorem r_2_farFrom_77 : RG M_X2_farFrom 77 2 5 80 := ⟨24, _, by decide +kernel, rfl, by decide, wd_f2_24, rfl, rfl⟩
theorem r_2_farFrom_80 : RL M_X2_farFrom 80 3 81 := Or.inl ⟨3, by decide +kernel, rfl, rfl⟩
theorem r_2_farFrom_81 : RC M_X2_farFrom 81 1 82 := ⟨⟨by decide, by decide⟩, Or.inl ⟨by decide +kernel, rfl⟩⟩
theorem r_2_farFrom_82 : RW M_X2_farFrom 82 .bastore 83 1 := ⟨by decide +kernel, rfl⟩
theorem r_2_farFrom_83 : RA M_X2_farFrom 83 0 84 := Or.inl ⟨0, by decide +kernel, rfl, rfl⟩
theorem r_2_farFrom_84 : RL M_X2_farFrom 84 3 85 := Or.inl ⟨3, by decide +kernel, rfl, rfl⟩
theorem r_2_farFrom_85 : RKv M_X2_farFrom M_X2_isCamp 85 1 2 88 := ⟨32, by decide +kernel, wd_m2_32, ok_M_X2_isCamp, wd_s2_isCamp, rfl⟩
theorem r_2_farFrom_88 : RB M_X2_farFrom 88 (.ifCond .eq) 106 91 := ⟨18, by decide +kernel, rfl, rfl⟩
theorem r_2_farFrom_106 : RA M_X2_farFrom 106 0 107 := Or.inl ⟨0, by decide +kernel, rfl, rfl⟩
theorem r_2_farFrom_107 : RL M_X2_farFrom 107 3 108 := Or.inl ⟨3, by decide +kernel, rfl, rfl⟩
theorem r_2_farFrom_108 : RKv M_X2_farFrom M_X2_leadOn 108 1 2 111 := ⟨53, by decide +kernel, wd_m2_53, ok_M_X2_leadOn, wd_s2_leadOn, rfl⟩
theorem r_2_farFrom_111 : RA M_X2_farFrom 111 0 112 := Or.inl ⟨0, by decide +kernel, rfl, rfl⟩
theorem r_2_farFrom_112 : RKv M_X2_farFrom M_X2_nearest 112 0 2 115 := ⟨57, by decide +kernel, wd_m2_57, ok_M_X2_nearest, wd_s2_nearest, rfl⟩
theorem r_2_farFrom_115 : RS M_X2_farFrom 115 3 116 := ⟨by decide, Or.inl ⟨3, by decide +kernel, rfl, rfl⟩⟩
theorem r_2_farFrom_116 : RI M_X2_farFrom 116 4 1 119 := ⟨by decide, by decide +kernel, rfl⟩
theorem r_2_farFrom_119 : RB M_X2_farFrom 119 .goto 59 122 := ⟨(-60), by decide +kernel, rfl, rfl⟩
theorem r_2_farFrom_91 : RA M_X2_farFrom 91 0 92 := Or.inl ⟨0, by decide +kernel, rfl, rfl⟩
theorem r_2_farFrom_92 : RG M_X2_farFrom 92 2 0 95 := ⟨11, _, by decide +kernel, rfl, by decide, wd_f2_11, rfl, rfl⟩
theorem r_2_farFrom_95 : RL M_X2_farFrom 95 3 96 := Or.inl ⟨3, by decide +kernel, rfl, rfl⟩
theorem r_2_farFrom_96 : RW M_X2_farFrom 96 .iaload 97 1 := ⟨by decide +kernel, rfl⟩
theorem r_2_farFrom_97 : RA M_X2_farFrom 97 0 98 := Or.inl ⟨0, by decide +kernel, rfl, rfl⟩
theorem r_2_farFrom_98 : RG M_X2_farFrom 98 2 0 101 := ⟨11, _, by decide +kernel, rfl, by decide, wd_f2_11, rfl, rfl⟩
theorem r_2_farFrom_101 : RL M_X2_farFrom 101 1 102 := Or.inl ⟨1, by decide +kernel, rfl, rfl⟩
theorem r_2_farFrom_102 : RW M_X2_farFrom 102 .iaload 103 1 := ⟨by decide +kernel, rfl⟩
theorem r_2_farFrom_103 : RB M_X2_farFrom 103 (.if_icmp .ne) 111 106 := ⟨8, by decide +kernel, rfl, rfl⟩
theorem r_2_farFrom_26 : RA M_X2_farFrom 26 0 27 := Or.inl ⟨0, by decide +kernel, rfl, rfl⟩
theorem r_2_farFrom_27 : RG M_X2_farFrom 27 2 4 30 := ⟨21, _, by decide +kernel, rfl, by decide, wd_f2_21, rfl, rfl⟩
theorem r_2_farFrom_30 : RL M_X2_farFrom 30 3 31 := Or.inl ⟨3, by decide +kernel, rfl, rfl⟩
theorem r_2_farFrom_31 : RC M_X2_farFrom 31 1000000000 33 := ⟨⟨by decide, by decide⟩, Or.inr (Or.inr (Or.inr (Or.inl ⟨52, by decide +kernel, wd_c2_52, rfl⟩)))⟩
theorem r_2_farFrom_33 : RW M_X2_farFrom 33 .iastore 34 1 := ⟨by decide +kernel, rfl⟩
theorem r_2_farFrom_34 : RA M_X2_farFrom 34 0 35 := Or.inl ⟨0, by decide +kernel, rfl, rfl⟩
theorem r_2_farFrom_35 : RG M_X2_farFrom 35 2 5 38 := ⟨24, _, by decide +kernel, rfl, by decide, wd_f2_24, rfl, rfl⟩
theorem r_2_farFrom_38 : RL M_X2_farFrom 38 3 39 := Or.inl ⟨3, by decide +kernel, rfl, rfl⟩
theorem r_2_farFrom_39 : RC M_X2_farFrom 39 0 40 := ⟨⟨by decide, by decide⟩, Or.inl ⟨by decide +kernel, rfl⟩⟩
theorem r_2_farFrom_40 : RW M_X2_farFrom 40 .bastore 41 1 := ⟨by decide +kernel, rfl⟩
theorem r_2_farFrom_41 : RI M_X2_farFrom 41 3 1 44 := ⟨by decide, by decide +kernel, rfl⟩
theorem r_2_farFrom_44 : RB M_X2_farFrom 44 .goto 20 47 := ⟨(-24), by decide +kernel, rfl, rfl⟩
theorem r_12_farOf_0 : RC M_X12_farOf 0 0 1 := ⟨⟨by decide, by decide⟩, Or.inl ⟨by decide +kernel, rfl⟩⟩
theorem r_12_farOf_1 : RS M_X12_farOf 1 3 2 := ⟨by decide, Or.inl ⟨3, by decide +kernel, rfl, rfl⟩⟩
theorem r_12_farOf_2 : RL M_X12_farOf 2 3 3 := Or.inl ⟨3, by decide +kernel, rfl, rfl⟩
theorem r_12_farOf_3 : RC M_X12_farOf 3 18 5 := ⟨⟨by decide, by decide⟩, Or.inr (Or.inl ⟨by decide +kernel, by decide, rfl⟩)⟩
theorem r_12_farOf_5 : RB M_X12_farOf 5 (.if_icmp .ge) 32 8 := ⟨27, by decide +kernel, rfl, rfl⟩
theorem r_12_farOf_32 : RC M_X12_farOf 32 1 33 := ⟨⟨by decide, by decide⟩, Or.inl ⟨by decide +kernel, rfl⟩⟩
theorem r_12_farOf_33 : RS M_X12_farOf 33 3 34 := ⟨by decide, Or.inl ⟨3, by decide +kernel, rfl, rfl⟩⟩
theorem r_12_farOf_34 : RL M_X12_farOf 34 3 35 := Or.inl ⟨3, by decide +kernel, rfl, rfl⟩
theorem r_12_farOf_35 : RB M_X12_farOf 35 (.ifCond .eq) 175 38 := ⟨140, by decide +kernel, rfl, rfl⟩
theorem r_12_farOf_175 : RA M_X12_farOf 175 0 176 := Or.inl ⟨0, by decide +kernel, rfl, rfl⟩
theorem r_12_farOf_176 : RG M_X12_farOf 176 12 43 179 := ⟨112, _, by decide +kernel, rfl, by decide, wd_f12_112, rfl, rfl⟩
theorem r_12_farOf_179 : RL M_X12_farOf 179 2 180 := Or.inl ⟨2, by decide +kernel, rfl, rfl⟩
theorem r_12_farOf_180 : RW M_X12_farOf 180 .iaload 181 1 := ⟨by decide +kernel, rfl⟩
theorem r_12_farOf_181 : RW M_X12_farOf 181 .ireturn 182 1 := ⟨by decide +kernel, rfl⟩
theorem r_12_farOf_38 : RC M_X12_farOf 38 0 39 := ⟨⟨by decide, by decide⟩, Or.inl ⟨by decide +kernel, rfl⟩⟩
theorem r_12_farOf_39 : RS M_X12_farOf 39 3 40 := ⟨by decide, Or.inl ⟨3, by decide +kernel, rfl, rfl⟩⟩
theorem r_12_farOf_40 : RC M_X12_farOf 40 0 41 := ⟨⟨by decide, by decide⟩, Or.inl ⟨by decide +kernel, rfl⟩⟩
theorem r_12_farOf_41 : RS M_X12_farOf 41 4 43 := ⟨by decide, Or.inr ⟨by decide +kernel, rfl⟩⟩
theorem r_12_farOf_43 : RL M_X12_farOf 43 4 45 := Or.inr ⟨by decide +kernel, rfl⟩
theorem r_12_farOf_45 : RC M_X12_farOf 45 18 47 := ⟨⟨by decide, by decide⟩, Or.inr (Or.inl ⟨by decide +kernel, by decide, rfl⟩)⟩
theorem r_12_farOf_47 : RB M_X12_farOf 47 (.if_icmp .ge) 172 50 := ⟨125, by decide +kernel, rfl, rfl⟩
theorem r_12_farOf_172 : RB M_X12_farOf 172 .goto 34 175 := ⟨(-138), by decide +kernel, rfl, rfl⟩
theorem r_12_farOf_84 : RS M_X12_farOf 84 5 86 := ⟨by decide, Or.inr ⟨by decide +kernel, rfl⟩⟩
theorem r_12_farOf_86 : RC M_X12_farOf 86 0 87 := ⟨⟨by decide, by decide⟩, Or.inl ⟨by decide +kernel, rfl⟩⟩
theorem r_12_farOf_87 : RS M_X12_farOf 87 6 89 := ⟨by decide, Or.inr ⟨by decide +kernel, rfl⟩⟩
theorem r_12_farOf_89 : RL M_X12_farOf 89 6 91 := Or.inr ⟨by decide +kernel, rfl⟩
theorem r_12_farOf_91 : RC M_X12_farOf 91 18 93 := ⟨⟨by decide, by decide⟩, Or.inr (Or.inl ⟨by decide +kernel, by decide, rfl⟩)⟩
theorem r_12_farOf_93 : RB M_X12_farOf 93 (.if_icmp .ge) 166 96 := ⟨73, by decide +kernel, rfl, rfl⟩
theorem r_12_farOf_166 : RI M_X12_farOf 166 4 1 169 := ⟨by decide, by decide +kernel, rfl⟩
theorem r_12_farOf_169 : RB M_X12_farOf 169 .goto 43 172 := ⟨(-126), by decide +kernel, rfl, rfl⟩
theorem r_12_farOf_96 : RA M_X12_farOf 96 0 97 := Or.inl ⟨0, by decide +kernel, rfl, rfl⟩
theorem r_12_farOf_97 : RG M_X12_farOf 97 12 4 100 := ⟨16, _, by decide +kernel, rfl, by decide, wd_f12_16, rfl, rfl⟩
theorem r_12_farOf_100 : RC M_X12_farOf 100 18 102 := ⟨⟨by decide, by decide⟩, Or.inr (Or.inl ⟨by decide +kernel, by decide, rfl⟩)⟩
theorem r_12_farOf_102 : RL M_X12_farOf 102 4 104 := Or.inr ⟨by decide +kernel, rfl⟩
theorem r_12_farOf_104 : RW M_X12_farOf 104 .imul 105 1 := ⟨by decide +kernel, rfl⟩
theorem r_12_farOf_105 : RL M_X12_farOf 105 6 107 := Or.inr ⟨by decide +kernel, rfl⟩
theorem r_12_farOf_107 : RW M_X12_farOf 107 .iadd 108 1 := ⟨by decide +kernel, rfl⟩
theorem r_12_farOf_108 : RW M_X12_farOf 108 .iaload 109 1 := ⟨by decide +kernel, rfl⟩
theorem r_12_farOf_109 : RS M_X12_farOf 109 7 111 := ⟨by decide, Or.inr ⟨by decide +kernel, rfl⟩⟩
theorem r_12_farOf_111 : RL M_X12_farOf 111 5 113 := Or.inr ⟨by decide +kernel, rfl⟩
theorem r_12_farOf_113 : RB M_X12_farOf 113 (.ifCond .eq) 160 116 := ⟨47, by decide +kernel, rfl, rfl⟩
theorem r_12_farOf_160 : RI M_X12_farOf 160 6 1 163 := ⟨by decide, by decide +kernel, rfl⟩
theorem r_12_farOf_163 : RB M_X12_farOf 163 .goto 89 166 := ⟨(-74), by decide +kernel, rfl, rfl⟩
theorem r_12_farOf_116 : RL M_X12_farOf 116 7 118 := Or.inr ⟨by decide +kernel, rfl⟩
theorem r_12_farOf_118 : RB M_X12_farOf 118 (.ifCond .le) 160 121 := ⟨42, by decide +kernel, rfl, rfl⟩
theorem r_12_farOf_121 : RA M_X12_farOf 121 0 122 := Or.inl ⟨0, by decide +kernel, rfl, rfl⟩
theorem r_12_farOf_122 : RG M_X12_farOf 122 12 43 125 := ⟨112, _, by decide +kernel, rfl, by decide, wd_f12_112, rfl, rfl⟩
theorem r_12_farOf_125 : RL M_X12_farOf 125 4 127 := Or.inr ⟨by decide +kernel, rfl⟩
theorem r_12_farOf_127 : RW M_X12_farOf 127 .iaload 128 1 := ⟨by decide +kernel, rfl⟩
theorem r_12_farOf_128 : RL M_X12_farOf 128 7 130 := Or.inr ⟨by decide +kernel, rfl⟩
theorem r_12_farOf_130 : RW M_X12_farOf 130 .iadd 131 1 := ⟨by decide +kernel, rfl⟩
theorem r_12_farOf_131 : RA M_X12_farOf 131 0 132 := Or.inl ⟨0, by decide +kernel, rfl, rfl⟩
theorem r_12_farOf_132 : RG M_X12_farOf 132 12 43 135 := ⟨112, _, by decide +kernel, rfl, by decide, wd_f12_112, rfl, rfl⟩
theorem r_12_farOf_135 : RL M_X12_farOf 135 6 137 := Or.inr ⟨by decide +kernel, rfl⟩
theorem r_12_farOf_137 : RW M_X12_farOf 137 .iaload 138 1 := ⟨by decide +kernel, rfl⟩
theorem r_12_farOf_138 : RB M_X12_farOf 138 (.if_icmp .ge) 160 141 := ⟨22, by decide +kernel, rfl, rfl⟩
theorem r_12_farOf_141 : RA M_X12_farOf 141 0 142 := Or.inl ⟨0, by decide +kernel, rfl, rfl⟩
theorem r_12_farOf_142 : RG M_X12_farOf 142 12 43 145 := ⟨112, _, by decide +kernel, rfl, by decide, wd_f12_112, rfl, rfl⟩
theorem r_12_farOf_145 : RL M_X12_farOf 145 6 147 := Or.inr ⟨by decide +kernel, rfl⟩
theorem r_12_farOf_147 : RA M_X12_farOf 147 0 148 := Or.inl ⟨0, by decide +kernel, rfl, rfl⟩
theorem r_12_farOf_148 : RG M_X12_farOf 148 12 43 151 := ⟨112, _, by decide +kernel, rfl, by decide, wd_f12_112, rfl, rfl⟩
theorem r_12_farOf_151 : RL M_X12_farOf 151 4 153 := Or.inr ⟨by decide +kernel, rfl⟩
theorem r_12_farOf_153 : RW M_X12_farOf 153 .iaload 154 1 := ⟨by decide +kernel, rfl⟩
theorem r_12_farOf_154 : RL M_X12_farOf 154 7 156 := Or.inr ⟨by decide +kernel, rfl⟩
theorem r_12_farOf_156 : RW M_X12_farOf 156 .iadd 157 1 := ⟨by decide +kernel, rfl⟩
theorem r_12_farOf_157 : RW M_X12_farOf 157 .iastore 158 1 := ⟨by decide +kernel, rfl⟩
theorem r_12_farOf_158 : RC M_X12_farOf 158 1 159 := ⟨⟨by decide, by decide⟩, Or.inl ⟨by decide +kernel, rfl⟩⟩
theorem r_12_farOf_159 : RS M_X12_farOf 159 3 160 := ⟨by decide, Or.inl ⟨3, by decide +kernel, rfl, rfl⟩⟩
theorem r_12_farOf_50 : RL M_X12_farOf 50 4 52 := Or.inr ⟨by decide +kernel, rfl⟩
theorem r_12_farOf_52 : RL M_X12_farOf 52 1 53 := Or.inl ⟨1, by decide +kernel, rfl, rfl⟩
theorem r_12_farOf_53 : RB M_X12_farOf 53 (.if_icmp .eq) 79 56 := ⟨26, by decide +kernel, rfl, rfl⟩
theorem r_12_farOf_79 : RC M_X12_farOf 79 1 80 := ⟨⟨by decide, by decide⟩, Or.inl ⟨by decide +kernel, rfl⟩⟩
theorem r_12_farOf_80 : RB M_X12_farOf 80 .goto 84 83 := ⟨4, by decide +kernel, rfl, rfl⟩
theorem r_12_farOf_56 : RL M_X12_farOf 56 4 58 := Or.inr ⟨by decide +kernel, rfl⟩
theorem r_12_farOf_58 : RC M_X12_farOf 58 16 60 := ⟨⟨by decide, by decide⟩, Or.inr (Or.inl ⟨by decide +kernel, by decide, rfl⟩)⟩
theorem r_12_farOf_60 : RB M_X12_farOf 60 (.if_icmp .ge) 79 63 := ⟨19, by decide +kernel, rfl, rfl⟩
theorem r_12_farOf_63 : RA M_X12_farOf 63 0 64 := Or.inl ⟨0, by decide +kernel, rfl, rfl⟩
theorem r_12_farOf_64 : RG M_X12_farOf 64 12 1 67 := ⟨9, _, by decide +kernel, rfl, by decide, wd_f12_9, rfl, rfl⟩
theorem r_12_farOf_67 : RL M_X12_farOf 67 4 69 := Or.inr ⟨by decide +kernel, rfl⟩
theorem r_12_farOf_69 : RW M_X12_farOf 69 .iaload 70 1 := ⟨by decide +kernel, rfl⟩
theorem r_12_farOf_70 : RA M_X12_farOf 70 0 71 := Or.inl ⟨0, by decide +kernel, rfl, rfl⟩
theorem r_12_farOf_71 : RG M_X12_farOf 71 12 1 74 := ⟨9, _, by decide +kernel, rfl, by decide, wd_f12_9, rfl, rfl⟩
theorem r_12_farOf_74 : RL M_X12_farOf 74 1 75 := Or.inl ⟨1, by decide +kernel, rfl, rfl⟩
theorem r_12_farOf_75 : RW M_X12_farOf 75 .iaload 76 1 := ⟨by decide +kernel, rfl⟩
theorem r_12_farOf_76 : RB M_X12_farOf 76 (.if_icmp .ne) 83 79 := ⟨7, by decide +kernel, rfl, rfl⟩
theorem r_12_farOf_83 : RC M_X12_farOf 83 0 84 := ⟨⟨by decide, by decide⟩, Or.inl ⟨by decide +kernel, rfl⟩⟩
theorem r_12_farOf_8 : RA M_X12_farOf 8 0 9 := Or.inl ⟨0, by decide +kernel, rfl, rfl⟩
theorem r_12_farOf_9 : RG M_X12_farOf 9 12 43 12 := ⟨112, _, by decide +kernel, rfl, by decide, wd_f12_112, rfl, rfl⟩
theorem r_12_farOf_12 : RL M_X12_farOf 12 3 13 := Or.inl ⟨3, by decide +kernel, rfl, rfl⟩
theorem r_12_farOf_13 : RL M_X12_farOf 13 3 14 := Or.inl ⟨3, by decide +kernel, rfl, rfl⟩
theorem r_12_farOf_14 : RL M_X12_farOf 14 1 15 := Or.inl ⟨1, by decide +kernel, rfl, rfl⟩
theorem r_12_farOf_15 : RB M_X12_farOf 15 (.if_icmp .ne) 22 18 := ⟨7, by decide +kernel, rfl, rfl⟩
theorem r_12_farOf_22 : RC M_X12_farOf 22 100000 25 := ⟨⟨by decide, by decide⟩, Or.inr (Or.inr (Or.inr (Or.inr ⟨260, by decide +kernel, wd_c12_260, rfl⟩)))⟩
theorem r_12_farOf_25 : RW M_X12_farOf 25 .iastore 26 1 := ⟨by decide +kernel, rfl⟩
theorem r_12_farOf_26 : RI M_X12_farOf 26 3 1 29 := ⟨by decide, by decide +kernel, rfl⟩
theorem r_12_farOf_29 : RB M_X12_farOf 29 .goto 2 32 := ⟨(-27), by decide +kernel, rfl, rfl⟩
theorem r_12_farOf_18 : RC M_X12_farOf 18 0 19 := ⟨⟨by decide, by decide⟩, Or.inl ⟨by decide +kernel, rfl⟩⟩
theorem r_12_farOf_19 : RB M_X12_farOf 19 .goto 25 22 := ⟨6, by decide +kernel, rfl, rfl⟩
theorem r_12_far_0 : RA M_X12_far 0 0 1 := Or.inl ⟨0, by decide +kernel, rfl, rfl⟩
theorem r_12_far_1 : RL M_X12_far 1 1 2 := Or.inl ⟨1, by decide +kernel, rfl, rfl⟩
theorem r_12_far_2 : RKv M_X12_far M_X12_isCamp 2 1 12 5 := ⟨247, by decide +kernel, wd_m12_247, ok_M_X12_isCamp, wd_s12_isCamp, rfl⟩
theorem r_12_far_5 : RB M_X12_far 5 (.ifCond .eq) 16 8 := ⟨11, by decide +kernel, rfl, rfl⟩
theorem r_12_far_16 : RC M_X12_far 16 (-1) 17 := ⟨⟨by decide, by decide⟩, Or.inl ⟨by decide +kernel, rfl⟩⟩
theorem r_12_far_17 : RW M_X12_far 17 .ireturn 18 1 := ⟨by decide +kernel, rfl⟩
theorem r_12_far_8 : RA M_X12_far 8 0 9 := Or.inl ⟨0, by decide +kernel, rfl, rfl⟩
theorem r_12_far_9 : RL M_X12_far 9 2 10 := Or.inl ⟨2, by decide +kernel, rfl, rfl⟩
theorem r_12_far_10 : RKv M_X12_far M_X12_isPoint 10 1 12 13 := ⟨257, by decide +kernel, wd_m12_257, ok_M_X12_isPoint, wd_s12_isPoint, rfl⟩
theorem r_12_far_13 : RB M_X12_far 13 (.ifCond .ne) 18 16 := ⟨5, by decide +kernel, rfl, rfl⟩
theorem r_12_far_18 : RA M_X12_far 18 0 19 := Or.inl ⟨0, by decide +kernel, rfl, rfl⟩
theorem r_12_far_19 : RL M_X12_far 19 1 20 := Or.inl ⟨1, by decide +kernel, rfl, rfl⟩
theorem r_12_far_20 : RL M_X12_far 20 2 21 := Or.inl ⟨2, by decide +kernel, rfl, rfl⟩
theorem r_12_far_21 : RKv M_X12_far M_X12_farOf 21 2 12 24 := ⟨261, by decide +kernel, wd_m12_261, ok_M_X12_farOf, wd_s12_farOf, rfl⟩
theorem r_12_far_24 : RS M_X12_far 24 3 25 := ⟨by decide, Or.inl ⟨3, by decide +kernel, rfl, rfl⟩⟩
theorem r_12_far_25 : RL M_X12_far 25 3 26 := Or.inl ⟨3, by decide +kernel, rfl, rfl⟩
theorem r_12_far_26 : RC M_X12_far 26 100000 29 := ⟨⟨by decide, by decide⟩, Or.inr (Or.inr (Or.inr (Or.inr ⟨260, by decide +kernel, wd_c12_260, rfl⟩)))⟩
theorem r_12_far_29 : RB M_X12_far 29 (.if_icmp .ge) 36 32 := ⟨7, by decide +kernel, rfl, rfl⟩
theorem r_12_far_36 : RC M_X12_far 36 (-4) 38 := ⟨⟨by decide, by decide⟩, Or.inr (Or.inl ⟨by decide +kernel, by decide, rfl⟩)⟩
theorem r_12_far_38 : RW M_X12_far 38 .ireturn 39 1 := ⟨by decide +kernel, rfl⟩
theorem r_12_far_32 : RL M_X12_far 32 3 33 := Or.inl ⟨3, by decide +kernel, rfl, rfl⟩
theorem r_12_far_33 : RB M_X12_far 33 .goto 38 36 := ⟨5, by decide +kernel, rfl, rfl⟩
theorem r_12_camp_0 : RL M_X12_camp 0 1 1 := Or.inl ⟨1, by decide +kernel, rfl, rfl⟩
theorem r_12_camp_1 : RKs M_X12_camp M_X12_isSide 1 1 4 := ⟨254, by decide +kernel, Or.inl wd_m12_254, ok_M_X12_isSide, rfl⟩
theorem r_12_camp_4 : RB M_X12_camp 4 (.ifCond .eq) 17 7 := ⟨13, by decide +kernel, rfl, rfl⟩
theorem r_12_camp_17 : RC M_X12_camp 17 (-1) 18 := ⟨⟨by decide, by decide⟩, Or.inl ⟨by decide +kernel, rfl⟩⟩
theorem r_12_camp_18 : RW M_X12_camp 18 .ireturn 19 1 := ⟨by decide +kernel, rfl⟩
theorem r_12_camp_7 : RL M_X12_camp 7 2 8 := Or.inl ⟨2, by decide +kernel, rfl, rfl⟩
theorem r_12_camp_8 : RC M_X12_camp 8 1 9 := ⟨⟨by decide, by decide⟩, Or.inl ⟨by decide +kernel, rfl⟩⟩
theorem r_12_camp_9 : RC M_X12_camp 9 99 11 := ⟨⟨by decide, by decide⟩, Or.inr (Or.inl ⟨by decide +kernel, by decide, rfl⟩)⟩
theorem r_12_camp_11 : RKs M_X12_camp M_X12_within 11 3 14 := ⟨240, by decide +kernel, Or.inl wd_m12_240, ok_M_X12_within, rfl⟩
theorem r_12_camp_14 : RB M_X12_camp 14 (.ifCond .ne) 19 17 := ⟨5, by decide +kernel, rfl, rfl⟩
theorem r_12_camp_19 : RA M_X12_camp 19 0 20 := Or.inl ⟨0, by decide +kernel, rfl, rfl⟩
theorem r_12_camp_20 : RG M_X12_camp 20 12 3 23 := ⟨244, _, by decide +kernel, rfl, by decide, wd_f12_244, rfl, rfl⟩
theorem r_12_camp_23 : RC M_X12_camp 23 16 25 := ⟨⟨by decide, by decide⟩, Or.inr (Or.inl ⟨by decide +kernel, by decide, rfl⟩)⟩
theorem r_12_camp_25 : RB M_X12_camp 25 (.if_icmp .ne) 31 28 := ⟨6, by decide +kernel, rfl, rfl⟩
theorem r_12_camp_31 : RA M_X12_camp 31 0 32 := Or.inl ⟨0, by decide +kernel, rfl, rfl⟩
theorem r_12_camp_32 : RG M_X12_camp 32 12 1 35 := ⟨9, _, by decide +kernel, rfl, by decide, wd_f12_9, rfl, rfl⟩
theorem r_12_camp_35 : RA M_X12_camp 35 0 36 := Or.inl ⟨0, by decide +kernel, rfl, rfl⟩
theorem r_12_camp_36 : RG M_X12_camp 36 12 3 39 := ⟨244, _, by decide +kernel, rfl, by decide, wd_f12_244, rfl, rfl⟩
theorem r_12_camp_39 : RL M_X12_camp 39 1 40 := Or.inl ⟨1, by decide +kernel, rfl, rfl⟩
theorem r_12_camp_40 : RW M_X12_camp 40 .iastore 41 1 := ⟨by decide +kernel, rfl⟩
theorem r_12_camp_41 : RA M_X12_camp 41 0 42 := Or.inl ⟨0, by decide +kernel, rfl, rfl⟩
theorem r_12_camp_42 : RG M_X12_camp 42 12 2 45 := ⟨13, _, by decide +kernel, rfl, by decide, wd_f12_13, rfl, rfl⟩
theorem r_12_camp_45 : RA M_X12_camp 45 0 46 := Or.inl ⟨0, by decide +kernel, rfl, rfl⟩
theorem r_12_camp_46 : RG M_X12_camp 46 12 3 49 := ⟨244, _, by decide +kernel, rfl, by decide, wd_f12_244, rfl, rfl⟩
theorem r_12_camp_49 : RL M_X12_camp 49 2 50 := Or.inl ⟨2, by decide +kernel, rfl, rfl⟩
theorem r_12_camp_50 : RW M_X12_camp 50 .iastore 51 1 := ⟨by decide +kernel, rfl⟩
theorem r_12_camp_51 : RA M_X12_camp 51 0 52 := Or.inl ⟨0, by decide +kernel, rfl, rfl⟩
theorem r_12_camp_52 : RW M_X12_camp 52 .dup 53 1 := ⟨by decide +kernel, rfl⟩
theorem r_12_camp_53 : RG M_X12_camp 53 12 3 56 := ⟨244, _, by decide +kernel, rfl, by decide, wd_f12_244, rfl, rfl⟩
theorem r_12_camp_56 : RC M_X12_camp 56 1 57 := ⟨⟨by decide, by decide⟩, Or.inl ⟨by decide +kernel, rfl⟩⟩
theorem r_12_camp_57 : RW M_X12_camp 57 .iadd 58 1 := ⟨by decide +kernel, rfl⟩
theorem r_12_camp_58 : RP M_X12_camp 58 12 3 61 := ⟨244, _, by decide +kernel, rfl, by decide, wd_f12_244, rfl, Or.inl rfl, rfl⟩
theorem r_12_camp_61 : RA M_X12_camp 61 0 62 := Or.inl ⟨0, by decide +kernel, rfl, rfl⟩
theorem r_12_camp_62 : RG M_X12_camp 62 12 3 65 := ⟨244, _, by decide +kernel, rfl, by decide, wd_f12_244, rfl, rfl⟩
theorem r_12_camp_65 : RC M_X12_camp 65 1 66 := ⟨⟨by decide, by decide⟩, Or.inl ⟨by decide +kernel, rfl⟩⟩
theorem r_12_camp_66 : RW M_X12_camp 66 .isub 67 1 := ⟨by decide +kernel, rfl⟩
theorem r_12_camp_67 : RW M_X12_camp 67 .ireturn 68 1 := ⟨by decide +kernel, rfl⟩
theorem r_12_camp_28 : RC M_X12_camp 28 (-2) 30 := ⟨⟨by decide, by decide⟩, Or.inr (Or.inl ⟨by decide +kernel, by decide, rfl⟩)⟩
theorem r_12_camp_30 : RW M_X12_camp 30 .ireturn 31 1 := ⟨by decide +kernel, rfl⟩
theorem r_12_road_0 : RA M_X12_road 0 0 1 := Or.inl ⟨0, by decide +kernel, rfl, rfl⟩
theorem r_12_road_1 : RL M_X12_road 1 1 2 := Or.inl ⟨1, by decide +kernel, rfl, rfl⟩
theorem r_12_road_2 : RKv M_X12_road M_X12_isPoint 2 1 12 5 := ⟨257, by decide +kernel, wd_m12_257, ok_M_X12_isPoint, wd_s12_isPoint, rfl⟩
theorem r_12_road_5 : RB M_X12_road 5 (.ifCond .eq) 58 8 := ⟨53, by decide +kernel, rfl, rfl⟩
theorem r_12_road_58 : RC M_X12_road 58 (-1) 59 := ⟨⟨by decide, by decide⟩, Or.inl ⟨by decide +kernel, rfl⟩⟩
theorem r_12_road_59 : RW M_X12_road 59 .ireturn 60 1 := ⟨by decide +kernel, rfl⟩
theorem r_12_road_8 : RA M_X12_road 8 0 9 := Or.inl ⟨0, by decide +kernel, rfl, rfl⟩
theorem r_12_road_9 : RL M_X12_road 9 2 10 := Or.inl ⟨2, by decide +kernel, rfl, rfl⟩
theorem r_12_road_10 : RKv M_X12_road M_X12_isPoint 10 1 12 13 := ⟨257, by decide +kernel, wd_m12_257, ok_M_X12_isPoint, wd_s12_isPoint, rfl⟩
theorem r_12_road_13 : RB M_X12_road 13 (.ifCond .eq) 58 16 := ⟨45, by decide +kernel, rfl, rfl⟩
theorem r_12_road_16 : RL M_X12_road 16 1 17 := Or.inl ⟨1, by decide +kernel, rfl, rfl⟩
theorem r_12_road_17 : RL M_X12_road 17 2 18 := Or.inl ⟨2, by decide +kernel, rfl, rfl⟩
theorem r_12_road_18 : RB M_X12_road 18 (.if_icmp .eq) 58 21 := ⟨40, by decide +kernel, rfl, rfl⟩
theorem r_12_road_21 : RL M_X12_road 21 3 22 := Or.inl ⟨3, by decide +kernel, rfl, rfl⟩
theorem r_12_road_22 : RC M_X12_road 22 1 23 := ⟨⟨by decide, by decide⟩, Or.inl ⟨by decide +kernel, rfl⟩⟩
theorem r_12_road_23 : RC M_X12_road 23 9 25 := ⟨⟨by decide, by decide⟩, Or.inr (Or.inl ⟨by decide +kernel, by decide, rfl⟩)⟩
theorem r_12_road_25 : RKs M_X12_road M_X12_within 25 3 28 := ⟨240, by decide +kernel, Or.inl wd_m12_240, ok_M_X12_within, rfl⟩
theorem r_12_road_28 : RB M_X12_road 28 (.ifCond .eq) 58 31 := ⟨30, by decide +kernel, rfl, rfl⟩
theorem r_12_road_31 : RL M_X12_road 31 1 32 := Or.inl ⟨1, by decide +kernel, rfl, rfl⟩
theorem r_12_road_32 : RC M_X12_road 32 16 34 := ⟨⟨by decide, by decide⟩, Or.inr (Or.inl ⟨by decide +kernel, by decide, rfl⟩)⟩
theorem r_12_road_34 : RB M_X12_road 34 (.if_icmp .ge) 60 37 := ⟨26, by decide +kernel, rfl, rfl⟩
theorem r_12_road_60 : RA M_X12_road 60 0 61 := Or.inl ⟨0, by decide +kernel, rfl, rfl⟩
theorem r_12_road_61 : RG M_X12_road 61 12 4 64 := ⟨16, _, by decide +kernel, rfl, by decide, wd_f12_16, rfl, rfl⟩
theorem r_12_road_64 : RC M_X12_road 64 18 66 := ⟨⟨by decide, by decide⟩, Or.inr (Or.inl ⟨by decide +kernel, by decide, rfl⟩)⟩
theorem r_12_road_66 : RL M_X12_road 66 1 67 := Or.inl ⟨1, by decide +kernel, rfl, rfl⟩
theorem r_12_road_67 : RW M_X12_road 67 .imul 68 1 := ⟨by decide +kernel, rfl⟩
theorem r_12_road_68 : RL M_X12_road 68 2 69 := Or.inl ⟨2, by decide +kernel, rfl, rfl⟩
theorem r_12_road_69 : RW M_X12_road 69 .iadd 70 1 := ⟨by decide +kernel, rfl⟩
theorem r_12_road_70 : RW M_X12_road 70 .iaload 71 1 := ⟨by decide +kernel, rfl⟩
theorem r_12_road_71 : RS M_X12_road 71 4 73 := ⟨by decide, Or.inr ⟨by decide +kernel, rfl⟩⟩
theorem r_12_road_73 : RL M_X12_road 73 4 75 := Or.inr ⟨by decide +kernel, rfl⟩
theorem r_12_road_75 : RB M_X12_road 75 (.ifCond .le) 89 78 := ⟨14, by decide +kernel, rfl, rfl⟩
theorem r_12_road_89 : RL M_X12_road 89 3 90 := Or.inl ⟨3, by decide +kernel, rfl, rfl⟩
theorem r_12_road_90 : RS M_X12_road 90 5 92 := ⟨by decide, Or.inr ⟨by decide +kernel, rfl⟩⟩
theorem r_12_road_92 : RA M_X12_road 92 0 93 := Or.inl ⟨0, by decide +kernel, rfl, rfl⟩
theorem r_12_road_93 : RG M_X12_road 93 12 4 96 := ⟨16, _, by decide +kernel, rfl, by decide, wd_f12_16, rfl, rfl⟩
theorem r_12_road_96 : RC M_X12_road 96 18 98 := ⟨⟨by decide, by decide⟩, Or.inr (Or.inl ⟨by decide +kernel, by decide, rfl⟩)⟩
theorem r_12_road_98 : RL M_X12_road 98 1 99 := Or.inl ⟨1, by decide +kernel, rfl, rfl⟩
theorem r_12_road_99 : RW M_X12_road 99 .imul 100 1 := ⟨by decide +kernel, rfl⟩
theorem r_12_road_100 : RL M_X12_road 100 2 101 := Or.inl ⟨2, by decide +kernel, rfl, rfl⟩
theorem r_12_road_101 : RW M_X12_road 101 .iadd 102 1 := ⟨by decide +kernel, rfl⟩
theorem r_12_road_102 : RL M_X12_road 102 5 104 := Or.inr ⟨by decide +kernel, rfl⟩
theorem r_12_road_104 : RW M_X12_road 104 .iastore 105 1 := ⟨by decide +kernel, rfl⟩
theorem r_12_road_105 : RA M_X12_road 105 0 106 := Or.inl ⟨0, by decide +kernel, rfl, rfl⟩
theorem r_12_road_106 : RG M_X12_road 106 12 4 109 := ⟨16, _, by decide +kernel, rfl, by decide, wd_f12_16, rfl, rfl⟩
theorem r_12_road_109 : RC M_X12_road 109 18 111 := ⟨⟨by decide, by decide⟩, Or.inr (Or.inl ⟨by decide +kernel, by decide, rfl⟩)⟩
theorem r_12_road_111 : RL M_X12_road 111 2 112 := Or.inl ⟨2, by decide +kernel, rfl, rfl⟩
theorem r_12_road_112 : RW M_X12_road 112 .imul 113 1 := ⟨by decide +kernel, rfl⟩
theorem r_12_road_113 : RL M_X12_road 113 1 114 := Or.inl ⟨1, by decide +kernel, rfl, rfl⟩
theorem r_12_road_114 : RW M_X12_road 114 .iadd 115 1 := ⟨by decide +kernel, rfl⟩
theorem r_12_road_115 : RL M_X12_road 115 5 117 := Or.inr ⟨by decide +kernel, rfl⟩
theorem r_12_road_117 : RW M_X12_road 117 .iastore 118 1 := ⟨by decide +kernel, rfl⟩
theorem r_12_road_118 : RL M_X12_road 118 5 120 := Or.inr ⟨by decide +kernel, rfl⟩
theorem r_12_road_120 : RW M_X12_road 120 .ireturn 121 1 := ⟨by decide +kernel, rfl⟩
theorem r_12_road_78 : RL M_X12_road 78 4 80 := Or.inr ⟨by decide +kernel, rfl⟩
theorem r_12_road_80 : RL M_X12_road 80 3 81 := Or.inl ⟨3, by decide +kernel, rfl, rfl⟩
theorem r_12_road_81 : RB M_X12_road 81 (.if_icmp .ge) 89 84 := ⟨8, by decide +kernel, rfl, rfl⟩
theorem r_12_road_84 : RL M_X12_road 84 4 86 := Or.inr ⟨by decide +kernel, rfl⟩
theorem r_12_road_86 : RB M_X12_road 86 .goto 90 89 := ⟨4, by decide +kernel, rfl, rfl⟩
theorem r_12_road_37 : RL M_X12_road 37 2 38 := Or.inl ⟨2, by decide +kernel, rfl, rfl⟩
theorem r_12_road_38 : RC M_X12_road 38 16 40 := ⟨⟨by decide, by decide⟩, Or.inr (Or.inl ⟨by decide +kernel, by decide, rfl⟩)⟩
theorem r_12_road_40 : RB M_X12_road 40 (.if_icmp .ge) 60 43 := ⟨20, by decide +kernel, rfl, rfl⟩
theorem r_12_road_43 : RA M_X12_road 43 0 44 := Or.inl ⟨0, by decide +kernel, rfl, rfl⟩
theorem r_12_road_44 : RG M_X12_road 44 12 1 47 := ⟨9, _, by decide +kernel, rfl, by decide, wd_f12_9, rfl, rfl⟩
theorem r_12_road_47 : RL M_X12_road 47 1 48 := Or.inl ⟨1, by decide +kernel, rfl, rfl⟩
theorem r_12_road_48 : RW M_X12_road 48 .iaload 49 1 := ⟨by decide +kernel, rfl⟩
theorem r_12_road_49 : RA M_X12_road 49 0 50 := Or.inl ⟨0, by decide +kernel, rfl, rfl⟩
theorem r_12_road_50 : RG M_X12_road 50 12 1 53 := ⟨9, _, by decide +kernel, rfl, by decide, wd_f12_9, rfl, rfl⟩
theorem r_12_road_53 : RL M_X12_road 53 2 54 := Or.inl ⟨2, by decide +kernel, rfl, rfl⟩
theorem r_12_road_54 : RW M_X12_road 54 .iaload 55 1 := ⟨by decide +kernel, rfl⟩
theorem r_12_road_55 : RB M_X12_road 55 (.if_icmp .eq) 60 58 := ⟨5, by decide +kernel, rfl, rfl⟩
set_option maxRecDepth 10000 in
theorem sp_X2_addCamp {l : Launch} {w : Wo} {d : Nat} {G : PH} {P : Option PV → PH → Prop} {s n : Int} (hc : 0 ≤ (gF G 2 0 2) ∧ (gF G 2 0 2) ≤ 16) (h1 : ¬ ((0 ≤ s ∧ s ≤ 1) ∧ 1 ≤ n ∧ n ≤ 99) → P (some (vI (-1))) G) (h2 : (0 ≤ s ∧ s ≤ 1) → 1 ≤ n ∧ n ≤ 99 → 16 ≤ (gF G 2 0 2) → P (some (vI (-2))) G) (h3 : (0 ≤ s ∧ s ≤ 1) → 1 ≤ n ∧ n ≤ 99 → (gF G 2 0 2) < 16 → P (some (vI (gF G 2 0 2))) (sF (sA (sA G 41 0 (gF G 2 0 2) s) 42 0 (gF G 2 0 2) n) 2 0 2 ((gF G 2 0 2) + 1))) : PW l w M_X2_addCamp (d + 1) 0 [some (vR 2 (0)), some (vI (s)), some (vI (n))] [] G P := by
  refine pw_iload r_2_addCamp_0 rfl ?_
  refine pw_callS (av := [vI (s)]) (st := []) (ls0 := [some (vI (s))]) r_2_addCamp_1 rfl rfl rfl (Nat.le_refl _) ?_
  refine sp_X11_isSide  ?_
  refine pw_if_eqB r_2_addCamp_4 (fun h04 => ?_) (fun h04 => ?_)
  · skip
    refine pw_const r_2_addCamp_17 ?_
    refine pw_iret r_2_addCamp_18 rfl (Nat.le_refl _) ⟨rfl, ?_⟩
    first | exact h1 (by omega) | exact h2 (by omega) (by omega) (by omega) | exact pe (h3 (by omega) (by omega) (by omega)) (by omega)
  · skip
    refine pw_iload r_2_addCamp_7 rfl ?_
    refine pw_const r_2_addCamp_8 ?_
    refine pw_const r_2_addCamp_9 ?_
    refine pw_callS (av := [vI (n), vI (1), vI (99)]) (st := []) (ls0 := [some (vI (n)), some (vI (1)), some (vI (99))]) r_2_addCamp_11 rfl rfl rfl (Nat.le_refl _) ?_
    refine sp_X11_within  ?_
    refine pw_if_neB r_2_addCamp_14 (fun h14 => ?_) (fun h14 => ?_)
    · skip
      refine pw_aload r_2_addCamp_19 rfl ?_
      refine pw_getI r_2_addCamp_20 fs_2_2 (by decide) ?_
      refine pw_const r_2_addCamp_23 ?_
      refine pw_icmp_lt r_2_addCamp_25 (fun h25 => ?_) (fun h25 => ?_)
      · skip
        refine pw_aload r_2_addCamp_31 rfl ?_
        refine pw_getR r_2_addCamp_32 fs_2_0 (by decide) ?_
        refine pw_aload r_2_addCamp_35 rfl ?_
        refine pw_getI r_2_addCamp_36 fs_2_2 (by decide) ?_
        refine pw_iload r_2_addCamp_39 rfl ?_
        refine pw_iast r_2_addCamp_40 sh41 (by omega) (by omega) ?_
        refine pw_aload r_2_addCamp_41 rfl ?_
        refine pw_getR r_2_addCamp_42 fs_2_1 (by decide) ?_
        refine pw_aload r_2_addCamp_45 rfl ?_
        refine pw_getIv (v := gF G 2 (0) 2) r_2_addCamp_46 fs_2_2 (by decide) (by first | rfl | simp [gF_sF, gF_sA, gF_uA, gF_sD, gA_sF, gA_sA, gA_uA, gA_sD, gD_sF, gD_sA, gD_uA, gD_sD]) ?_
        refine pw_iload r_2_addCamp_49 rfl ?_
        refine pw_iast r_2_addCamp_50 sh42 (by omega) (by omega) ?_
        refine pw_aload r_2_addCamp_51 rfl ?_
        refine pw_dup r_2_addCamp_52 rfl ?_
        refine pw_getIv (v := gF G 2 (0) 2) r_2_addCamp_53 fs_2_2 (by decide) (by first | rfl | simp [gF_sF, gF_sA, gF_uA, gF_sD, gA_sF, gA_sA, gA_uA, gA_sD, gD_sF, gD_sA, gD_uA, gD_sD]) ?_
        refine pw_const r_2_addCamp_56 ?_
        refine pw_iadd r_2_addCamp_57 (by omega) ?_
        refine pw_putI r_2_addCamp_58 (by decide +kernel) fs_2_2 (by decide) ?_
        refine pw_aload r_2_addCamp_61 rfl ?_
        refine pw_getIv (v := ((gF G 2 (0) 2) + 1)) r_2_addCamp_62 fs_2_2 (by decide) (by first | rfl | simp [gF_sF, gF_sA, gF_uA, gF_sD, gA_sF, gA_sA, gA_uA, gA_sD, gD_sF, gD_sA, gD_uA, gD_sD]) ?_
        refine pw_const r_2_addCamp_65 ?_
        refine pw_isub r_2_addCamp_66 (by omega) ?_
        refine pw_iret r_2_addCamp_67 rfl (Nat.le_refl _) ⟨rfl, ?_⟩
        first | exact h1 (by omega) | exact h2 (by omega) (by omega) (by omega) | exact pe (h3 (by omega) (by omega) (by omega)) (by omega)
      · skip
        refine pw_const r_2_addCamp_28 ?_
        refine pw_iret r_2_addCamp_30 rfl (Nat.le_refl _) ⟨rfl, ?_⟩
        first | exact h1 (by omega) | exact h2 (by omega) (by omega) (by omega) | exact pe (h3 (by omega) (by omega) (by omega)) (by omega)
    · skip
      refine pw_const r_2_addCamp_17 ?_
      refine pw_iret r_2_addCamp_18 rfl (Nat.le_refl _) ⟨rfl, ?_⟩
      first | exact h1 (by omega) | exact h2 (by omega) (by omega) (by omega) | exact pe (h3 (by omega) (by omega) (by omega)) (by omega)
set_option maxRecDepth 10000 in
theorem sp_X2_addRoad {l : Launch} {w : Wo} {d : Nat} {G : PH} {P : Option PV → PH → Prop} {a b n : Int} (hc : 0 ≤ (gF G 2 0 2) ∧ (gF G 2 0 2) ≤ 16) (hr : ∀ k, 0 ≤ k → k < 324 → 0 ≤ (gA G 43 0 (k)) ∧ (gA G 43 0 (k)) ≤ 9) (h1 : ¬ ((((0 ≤ a ∧ a < (gF G 2 0 2)) ∨ a = 16 ∨ a = 17) ∧ ((0 ≤ b ∧ b < (gF G 2 0 2)) ∨ b = 16 ∨ b = 17)) ∧ (a ≠ b ∧ 1 ≤ n ∧ n ≤ 9) ∧ ((0 ≤ a ∧ a < (gF G 2 0 2)) → (0 ≤ b ∧ b < (gF G 2 0 2)) → (gA G 41 0 (a)) = (gA G 41 0 (b)))) → P (some (vI (-1))) G) (h2 : (((0 ≤ a ∧ a < (gF G 2 0 2)) ∨ a = 16 ∨ a = 17) ∧ ((0 ≤ b ∧ b < (gF G 2 0 2)) ∨ b = 16 ∨ b = 17)) → (a ≠ b ∧ 1 ≤ n ∧ n ≤ 9) → ((0 ≤ a ∧ a < (gF G 2 0 2)) → (0 ≤ b ∧ b < (gF G 2 0 2)) → (gA G 41 0 (a)) = (gA G 41 0 (b))) → ∀ m, (((gA G 43 0 (a * 18 + b)) = 0 ∧ m = n) ∨ (0 < (gA G 43 0 (a * 18 + b)) ∧ m = min (gA G 43 0 (a * 18 + b)) n)) → P (some (vI m)) (sA (sA G 43 0 (a * 18 + b) m) 43 0 (b * 18 + a) m)) : PW l w M_X2_addRoad (d + 2) 0 [some (vR 2 (0)), some (vI (a)), some (vI (b)), some (vI (n)), none, none] [] G P := by
  refine pw_aload r_2_addRoad_0 rfl ?_
  refine pw_iload r_2_addRoad_1 rfl ?_
  refine pw_callV (av := [vI (a)]) (st := []) (ls0 := [some (vR 2 (0)), some (vI (a))]) r_2_addRoad_2 rfl rfl rfl (Nat.le_refl _) ?_
  refine sp_X2_isPoint (by first | assumption | exact hc | omega) ?_
  refine pw_if_eqB r_2_addRoad_5 (fun h05 => ?_) (fun h05 => ?_)
  · skip
    refine pw_const r_2_addRoad_31 ?_
    refine pw_iret r_2_addRoad_32 rfl (Nat.le_refl _) ⟨rfl, ?_⟩
    first | exact h1 (fun q => by first | omega | exact absurd (q.2.2 (by omega) (by omega)) (by assumption)) | exact h2 ⟨by omega, by omega⟩ ⟨by omega, by omega, by omega⟩ (fun _ _ => by first | assumption | omega) _ (by first | exact Or.inl ⟨by omega, rfl⟩ | exact Or.inr ⟨by omega, rfl⟩)
  · skip
    refine pw_aload r_2_addRoad_8 rfl ?_
    refine pw_iload r_2_addRoad_9 rfl ?_
    refine pw_callV (av := [vI (b)]) (st := []) (ls0 := [some (vR 2 (0)), some (vI (b))]) r_2_addRoad_10 rfl rfl rfl (Nat.le_refl _) ?_
    refine sp_X2_isPoint (by first | assumption | exact hc | omega) ?_
    refine pw_if_eqB r_2_addRoad_13 (fun h13 => ?_) (fun h13 => ?_)
    · skip
      refine pw_const r_2_addRoad_31 ?_
      refine pw_iret r_2_addRoad_32 rfl (Nat.le_refl _) ⟨rfl, ?_⟩
      first | exact h1 (fun q => by first | omega | exact absurd (q.2.2 (by omega) (by omega)) (by assumption)) | exact h2 ⟨by omega, by omega⟩ ⟨by omega, by omega, by omega⟩ (fun _ _ => by first | assumption | omega) _ (by first | exact Or.inl ⟨by omega, rfl⟩ | exact Or.inr ⟨by omega, rfl⟩)
    · skip
      refine pw_iload r_2_addRoad_16 rfl ?_
      refine pw_iload r_2_addRoad_17 rfl ?_
      refine pw_icmp_eq r_2_addRoad_18 (fun h18 => ?_) (fun h18 => ?_)
      · skip
        refine pw_const r_2_addRoad_31 ?_
        refine pw_iret r_2_addRoad_32 rfl (Nat.le_refl _) ⟨rfl, ?_⟩
        first | exact h1 (fun q => by first | omega | exact absurd (q.2.2 (by omega) (by omega)) (by assumption)) | exact h2 ⟨by omega, by omega⟩ ⟨by omega, by omega, by omega⟩ (fun _ _ => by first | assumption | omega) _ (by first | exact Or.inl ⟨by omega, rfl⟩ | exact Or.inr ⟨by omega, rfl⟩)
      · skip
        refine pw_iload r_2_addRoad_21 rfl ?_
        refine pw_const r_2_addRoad_22 ?_
        refine pw_const r_2_addRoad_23 ?_
        refine pw_callS (av := [vI (n), vI (1), vI (9)]) (st := []) (ls0 := [some (vI (n)), some (vI (1)), some (vI (9))]) r_2_addRoad_25 rfl rfl rfl (Nat.le_refl _) ?_
        refine sp_X11_within  ?_
        refine pw_if_neB r_2_addRoad_28 (fun h28 => ?_) (fun h28 => ?_)
        · skip
          refine pw_aload r_2_addRoad_33 rfl ?_
          refine pw_iload r_2_addRoad_34 rfl ?_
          refine pw_callV (av := [vI (a)]) (st := []) (ls0 := [some (vR 2 (0)), some (vI (a))]) r_2_addRoad_35 rfl rfl rfl (Nat.le_refl _) ?_
          refine sp_X2_isCamp (by first | assumption | exact hc | omega) ?_
          refine pw_if_eqB r_2_addRoad_38 (fun h38 => ?_) (fun h38 => ?_)
          · skip
            have hr1 := hr (a * 18 + b) (by omega) (by omega)
            refine pw_aload r_2_addRoad_66 rfl ?_
            refine pw_getR r_2_addRoad_67 fs_2_3 (by decide) ?_
            refine pw_iload r_2_addRoad_70 rfl ?_
            refine pw_const r_2_addRoad_71 ?_
            refine pw_imul r_2_addRoad_73 (by omega) ?_
            refine pw_iload r_2_addRoad_74 rfl ?_
            refine pw_iadd r_2_addRoad_75 (by omega) ?_
            refine pw_iald r_2_addRoad_76 sh43 (by omega) (by omega) ?_
            refine pw_istore (ls' := [some (vR 2 (0)), some (vI (a)), some (vI (b)), some (vI (n)), some (vI (gA G 43 (0) (((a * 18) + b)))), none]) r_2_addRoad_77 rfl rfl ?_
            refine pw_iload r_2_addRoad_79 rfl ?_
            refine pw_if_ne r_2_addRoad_81 (fun h81 => ?_) (fun h81 => ?_)
            · skip
              refine pw_iload r_2_addRoad_88 rfl ?_
              refine pw_iload r_2_addRoad_90 rfl ?_
              refine pw_mmin r_2_addRoad_91 rfl (Nat.le_of_ble_eq_true rfl) (Nat.le_refl _) ?_
              refine pw_istore (ls' := [some (vR 2 (0)), some (vI (a)), some (vI (b)), some (vI (n)), some (vI (gA G 43 (0) (((a * 18) + b)))), some (vI (min (gA G 43 (0) (((a * 18) + b))) n))]) r_2_addRoad_94 rfl rfl ?_
              refine pw_aload r_2_addRoad_96 rfl ?_
              refine pw_getR r_2_addRoad_97 fs_2_3 (by decide) ?_
              refine pw_iload r_2_addRoad_100 rfl ?_
              refine pw_const r_2_addRoad_101 ?_
              refine pw_imul r_2_addRoad_103 (by omega) ?_
              refine pw_iload r_2_addRoad_104 rfl ?_
              refine pw_iadd r_2_addRoad_105 (by omega) ?_
              refine pw_iload r_2_addRoad_106 rfl ?_
              refine pw_iast r_2_addRoad_108 sh43 (by omega) (by omega) ?_
              refine pw_aload r_2_addRoad_109 rfl ?_
              refine pw_getR r_2_addRoad_110 fs_2_3 (by decide) ?_
              refine pw_iload r_2_addRoad_113 rfl ?_
              refine pw_const r_2_addRoad_114 ?_
              refine pw_imul r_2_addRoad_116 (by omega) ?_
              refine pw_iload r_2_addRoad_117 rfl ?_
              refine pw_iadd r_2_addRoad_118 (by omega) ?_
              refine pw_iload r_2_addRoad_119 rfl ?_
              refine pw_iast r_2_addRoad_121 sh43 (by omega) (by omega) ?_
              refine pw_iload r_2_addRoad_122 rfl ?_
              refine pw_iret r_2_addRoad_124 rfl (Nat.le_refl _) ⟨rfl, ?_⟩
              first | exact h1 (fun q => by first | omega | exact absurd (q.2.2 (by omega) (by omega)) (by assumption)) | exact h2 ⟨by omega, by omega⟩ ⟨by omega, by omega, by omega⟩ (fun _ _ => by first | assumption | omega) _ (by first | exact Or.inl ⟨by omega, rfl⟩ | exact Or.inr ⟨by omega, rfl⟩)
            · skip
              refine pw_iload r_2_addRoad_84 rfl ?_
              refine pw_goto r_2_addRoad_85 ?_
              refine pw_istore (ls' := [some (vR 2 (0)), some (vI (a)), some (vI (b)), some (vI (n)), some (vI (gA G 43 (0) (((a * 18) + b)))), some (vI (n))]) r_2_addRoad_94 rfl rfl ?_
              refine pw_aload r_2_addRoad_96 rfl ?_
              refine pw_getR r_2_addRoad_97 fs_2_3 (by decide) ?_
              refine pw_iload r_2_addRoad_100 rfl ?_
              refine pw_const r_2_addRoad_101 ?_
              refine pw_imul r_2_addRoad_103 (by omega) ?_
              refine pw_iload r_2_addRoad_104 rfl ?_
              refine pw_iadd r_2_addRoad_105 (by omega) ?_
              refine pw_iload r_2_addRoad_106 rfl ?_
              refine pw_iast r_2_addRoad_108 sh43 (by omega) (by omega) ?_
              refine pw_aload r_2_addRoad_109 rfl ?_
              refine pw_getR r_2_addRoad_110 fs_2_3 (by decide) ?_
              refine pw_iload r_2_addRoad_113 rfl ?_
              refine pw_const r_2_addRoad_114 ?_
              refine pw_imul r_2_addRoad_116 (by omega) ?_
              refine pw_iload r_2_addRoad_117 rfl ?_
              refine pw_iadd r_2_addRoad_118 (by omega) ?_
              refine pw_iload r_2_addRoad_119 rfl ?_
              refine pw_iast r_2_addRoad_121 sh43 (by omega) (by omega) ?_
              refine pw_iload r_2_addRoad_122 rfl ?_
              refine pw_iret r_2_addRoad_124 rfl (Nat.le_refl _) ⟨rfl, ?_⟩
              first | exact h1 (fun q => by first | omega | exact absurd (q.2.2 (by omega) (by omega)) (by assumption)) | exact h2 ⟨by omega, by omega⟩ ⟨by omega, by omega, by omega⟩ (fun _ _ => by first | assumption | omega) _ (by first | exact Or.inl ⟨by omega, rfl⟩ | exact Or.inr ⟨by omega, rfl⟩)
          · skip
            refine pw_aload r_2_addRoad_41 rfl ?_
            refine pw_iload r_2_addRoad_42 rfl ?_
            refine pw_callV (av := [vI (b)]) (st := []) (ls0 := [some (vR 2 (0)), some (vI (b))]) r_2_addRoad_43 rfl rfl rfl (Nat.le_refl _) ?_
            refine sp_X2_isCamp (by first | assumption | exact hc | omega) ?_
            refine pw_if_eqB r_2_addRoad_46 (fun h46 => ?_) (fun h46 => ?_)
            · skip
              have hr1 := hr (a * 18 + b) (by omega) (by omega)
              refine pw_aload r_2_addRoad_66 rfl ?_
              refine pw_getR r_2_addRoad_67 fs_2_3 (by decide) ?_
              refine pw_iload r_2_addRoad_70 rfl ?_
              refine pw_const r_2_addRoad_71 ?_
              refine pw_imul r_2_addRoad_73 (by omega) ?_
              refine pw_iload r_2_addRoad_74 rfl ?_
              refine pw_iadd r_2_addRoad_75 (by omega) ?_
              refine pw_iald r_2_addRoad_76 sh43 (by omega) (by omega) ?_
              refine pw_istore (ls' := [some (vR 2 (0)), some (vI (a)), some (vI (b)), some (vI (n)), some (vI (gA G 43 (0) (((a * 18) + b)))), none]) r_2_addRoad_77 rfl rfl ?_
              refine pw_iload r_2_addRoad_79 rfl ?_
              refine pw_if_ne r_2_addRoad_81 (fun h81 => ?_) (fun h81 => ?_)
              · skip
                refine pw_iload r_2_addRoad_88 rfl ?_
                refine pw_iload r_2_addRoad_90 rfl ?_
                refine pw_mmin r_2_addRoad_91 rfl (Nat.le_of_ble_eq_true rfl) (Nat.le_refl _) ?_
                refine pw_istore (ls' := [some (vR 2 (0)), some (vI (a)), some (vI (b)), some (vI (n)), some (vI (gA G 43 (0) (((a * 18) + b)))), some (vI (min (gA G 43 (0) (((a * 18) + b))) n))]) r_2_addRoad_94 rfl rfl ?_
                refine pw_aload r_2_addRoad_96 rfl ?_
                refine pw_getR r_2_addRoad_97 fs_2_3 (by decide) ?_
                refine pw_iload r_2_addRoad_100 rfl ?_
                refine pw_const r_2_addRoad_101 ?_
                refine pw_imul r_2_addRoad_103 (by omega) ?_
                refine pw_iload r_2_addRoad_104 rfl ?_
                refine pw_iadd r_2_addRoad_105 (by omega) ?_
                refine pw_iload r_2_addRoad_106 rfl ?_
                refine pw_iast r_2_addRoad_108 sh43 (by omega) (by omega) ?_
                refine pw_aload r_2_addRoad_109 rfl ?_
                refine pw_getR r_2_addRoad_110 fs_2_3 (by decide) ?_
                refine pw_iload r_2_addRoad_113 rfl ?_
                refine pw_const r_2_addRoad_114 ?_
                refine pw_imul r_2_addRoad_116 (by omega) ?_
                refine pw_iload r_2_addRoad_117 rfl ?_
                refine pw_iadd r_2_addRoad_118 (by omega) ?_
                refine pw_iload r_2_addRoad_119 rfl ?_
                refine pw_iast r_2_addRoad_121 sh43 (by omega) (by omega) ?_
                refine pw_iload r_2_addRoad_122 rfl ?_
                refine pw_iret r_2_addRoad_124 rfl (Nat.le_refl _) ⟨rfl, ?_⟩
                first | exact h1 (fun q => by first | omega | exact absurd (q.2.2 (by omega) (by omega)) (by assumption)) | exact h2 ⟨by omega, by omega⟩ ⟨by omega, by omega, by omega⟩ (fun _ _ => by first | assumption | omega) _ (by first | exact Or.inl ⟨by omega, rfl⟩ | exact Or.inr ⟨by omega, rfl⟩)
              · skip
                refine pw_iload r_2_addRoad_84 rfl ?_
                refine pw_goto r_2_addRoad_85 ?_
                refine pw_istore (ls' := [some (vR 2 (0)), some (vI (a)), some (vI (b)), some (vI (n)), some (vI (gA G 43 (0) (((a * 18) + b)))), some (vI (n))]) r_2_addRoad_94 rfl rfl ?_
                refine pw_aload r_2_addRoad_96 rfl ?_
                refine pw_getR r_2_addRoad_97 fs_2_3 (by decide) ?_
                refine pw_iload r_2_addRoad_100 rfl ?_
                refine pw_const r_2_addRoad_101 ?_
                refine pw_imul r_2_addRoad_103 (by omega) ?_
                refine pw_iload r_2_addRoad_104 rfl ?_
                refine pw_iadd r_2_addRoad_105 (by omega) ?_
                refine pw_iload r_2_addRoad_106 rfl ?_
                refine pw_iast r_2_addRoad_108 sh43 (by omega) (by omega) ?_
                refine pw_aload r_2_addRoad_109 rfl ?_
                refine pw_getR r_2_addRoad_110 fs_2_3 (by decide) ?_
                refine pw_iload r_2_addRoad_113 rfl ?_
                refine pw_const r_2_addRoad_114 ?_
                refine pw_imul r_2_addRoad_116 (by omega) ?_
                refine pw_iload r_2_addRoad_117 rfl ?_
                refine pw_iadd r_2_addRoad_118 (by omega) ?_
                refine pw_iload r_2_addRoad_119 rfl ?_
                refine pw_iast r_2_addRoad_121 sh43 (by omega) (by omega) ?_
                refine pw_iload r_2_addRoad_122 rfl ?_
                refine pw_iret r_2_addRoad_124 rfl (Nat.le_refl _) ⟨rfl, ?_⟩
                first | exact h1 (fun q => by first | omega | exact absurd (q.2.2 (by omega) (by omega)) (by assumption)) | exact h2 ⟨by omega, by omega⟩ ⟨by omega, by omega, by omega⟩ (fun _ _ => by first | assumption | omega) _ (by first | exact Or.inl ⟨by omega, rfl⟩ | exact Or.inr ⟨by omega, rfl⟩)
            · skip
              refine pw_aload r_2_addRoad_49 rfl ?_
              refine pw_getR r_2_addRoad_50 fs_2_0 (by decide) ?_
              refine pw_iload r_2_addRoad_53 rfl ?_
              refine pw_iald r_2_addRoad_54 sh41 (by omega) (by omega) ?_
              refine pw_aload r_2_addRoad_55 rfl ?_
              refine pw_getR r_2_addRoad_56 fs_2_0 (by decide) ?_
              refine pw_iload r_2_addRoad_59 rfl ?_
              refine pw_iald r_2_addRoad_60 sh41 (by omega) (by omega) ?_
              refine pw_icmp_eq r_2_addRoad_61 (fun h61 => ?_) (fun h61 => ?_)
              · skip
                have hr1 := hr (a * 18 + b) (by omega) (by omega)
                refine pw_aload r_2_addRoad_66 rfl ?_
                refine pw_getR r_2_addRoad_67 fs_2_3 (by decide) ?_
                refine pw_iload r_2_addRoad_70 rfl ?_
                refine pw_const r_2_addRoad_71 ?_
                refine pw_imul r_2_addRoad_73 (by omega) ?_
                refine pw_iload r_2_addRoad_74 rfl ?_
                refine pw_iadd r_2_addRoad_75 (by omega) ?_
                refine pw_iald r_2_addRoad_76 sh43 (by omega) (by omega) ?_
                refine pw_istore (ls' := [some (vR 2 (0)), some (vI (a)), some (vI (b)), some (vI (n)), some (vI (gA G 43 (0) (((a * 18) + b)))), none]) r_2_addRoad_77 rfl rfl ?_
                refine pw_iload r_2_addRoad_79 rfl ?_
                refine pw_if_ne r_2_addRoad_81 (fun h81 => ?_) (fun h81 => ?_)
                · skip
                  refine pw_iload r_2_addRoad_88 rfl ?_
                  refine pw_iload r_2_addRoad_90 rfl ?_
                  refine pw_mmin r_2_addRoad_91 rfl (Nat.le_of_ble_eq_true rfl) (Nat.le_refl _) ?_
                  refine pw_istore (ls' := [some (vR 2 (0)), some (vI (a)), some (vI (b)), some (vI (n)), some (vI (gA G 43 (0) (((a * 18) + b)))), some (vI (min (gA G 43 (0) (((a * 18) + b))) n))]) r_2_addRoad_94 rfl rfl ?_
                  refine pw_aload r_2_addRoad_96 rfl ?_
                  refine pw_getR r_2_addRoad_97 fs_2_3 (by decide) ?_
                  refine pw_iload r_2_addRoad_100 rfl ?_
                  refine pw_const r_2_addRoad_101 ?_
                  refine pw_imul r_2_addRoad_103 (by omega) ?_
                  refine pw_iload r_2_addRoad_104 rfl ?_
                  refine pw_iadd r_2_addRoad_105 (by omega) ?_
                  refine pw_iload r_2_addRoad_106 rfl ?_
                  refine pw_iast r_2_addRoad_108 sh43 (by omega) (by omega) ?_
                  refine pw_aload r_2_addRoad_109 rfl ?_
                  refine pw_getR r_2_addRoad_110 fs_2_3 (by decide) ?_
                  refine pw_iload r_2_addRoad_113 rfl ?_
                  refine pw_const r_2_addRoad_114 ?_
                  refine pw_imul r_2_addRoad_116 (by omega) ?_
                  refine pw_iload r_2_addRoad_117 rfl ?_
                  refine pw_iadd r_2_addRoad_118 (by omega) ?_
                  refine pw_iload r_2_addRoad_119 rfl ?_
                  refine pw_iast r_2_addRoad_121 sh43 (by omega) (by omega) ?_
                  refine pw_iload r_2_addRoad_122 rfl ?_
                  refine pw_iret r_2_addRoad_124 rfl (Nat.le_refl _) ⟨rfl, ?_⟩
                  first | exact h1 (fun q => by first | omega | exact absurd (q.2.2 (by omega) (by omega)) (by assumption)) | exact h2 ⟨by omega, by omega⟩ ⟨by omega, by omega, by omega⟩ (fun _ _ => by first | assumption | omega) _ (by first | exact Or.inl ⟨by omega, rfl⟩ | exact Or.inr ⟨by omega, rfl⟩)
                · skip
                  refine pw_iload r_2_addRoad_84 rfl ?_
                  refine pw_goto r_2_addRoad_85 ?_
                  refine pw_istore (ls' := [some (vR 2 (0)), some (vI (a)), some (vI (b)), some (vI (n)), some (vI (gA G 43 (0) (((a * 18) + b)))), some (vI (n))]) r_2_addRoad_94 rfl rfl ?_
                  refine pw_aload r_2_addRoad_96 rfl ?_
                  refine pw_getR r_2_addRoad_97 fs_2_3 (by decide) ?_
                  refine pw_iload r_2_addRoad_100 rfl ?_
                  refine pw_const r_2_addRoad_101 ?_
                  refine pw_imul r_2_addRoad_103 (by omega) ?_
                  refine pw_iload r_2_addRoad_104 rfl ?_
                  refine pw_iadd r_2_addRoad_105 (by omega) ?_
                  refine pw_iload r_2_addRoad_106 rfl ?_
                  refine pw_iast r_2_addRoad_108 sh43 (by omega) (by omega) ?_
                  refine pw_aload r_2_addRoad_109 rfl ?_
                  refine pw_getR r_2_addRoad_110 fs_2_3 (by decide) ?_
                  refine pw_iload r_2_addRoad_113 rfl ?_
                  refine pw_const r_2_addRoad_114 ?_
                  refine pw_imul r_2_addRoad_116 (by omega) ?_
                  refine pw_iload r_2_addRoad_117 rfl ?_
                  refine pw_iadd r_2_addRoad_118 (by omega) ?_
                  refine pw_iload r_2_addRoad_119 rfl ?_
                  refine pw_iast r_2_addRoad_121 sh43 (by omega) (by omega) ?_
                  refine pw_iload r_2_addRoad_122 rfl ?_
                  refine pw_iret r_2_addRoad_124 rfl (Nat.le_refl _) ⟨rfl, ?_⟩
                  first | exact h1 (fun q => by first | omega | exact absurd (q.2.2 (by omega) (by omega)) (by assumption)) | exact h2 ⟨by omega, by omega⟩ ⟨by omega, by omega, by omega⟩ (fun _ _ => by first | assumption | omega) _ (by first | exact Or.inl ⟨by omega, rfl⟩ | exact Or.inr ⟨by omega, rfl⟩)
              · skip
                refine pw_const r_2_addRoad_64 ?_
                refine pw_iret r_2_addRoad_65 rfl (Nat.le_refl _) ⟨rfl, ?_⟩
                first | exact h1 (fun q => by first | omega | exact absurd (q.2.2 (by omega) (by omega)) (by assumption)) | exact h2 ⟨by omega, by omega⟩ ⟨by omega, by omega, by omega⟩ (fun _ _ => by first | assumption | omega) _ (by first | exact Or.inl ⟨by omega, rfl⟩ | exact Or.inr ⟨by omega, rfl⟩)
        · skip
          refine pw_const r_2_addRoad_31 ?_
          refine pw_iret r_2_addRoad_32 rfl (Nat.le_refl _) ⟨rfl, ?_⟩
          first | exact h1 (fun q => by first | omega | exact absurd (q.2.2 (by omega) (by omega)) (by assumption)) | exact h2 ⟨by omega, by omega⟩ ⟨by omega, by omega, by omega⟩ (fun _ _ => by first | assumption | omega) _ (by first | exact Or.inl ⟨by omega, rfl⟩ | exact Or.inr ⟨by omega, rfl⟩)
set_option maxRecDepth 10000 in
theorem sp_X2_leadOn {l : Launch} {w : Wo} {d : Nat} {G : PH} {P : Option PV → PH → Prop} {z : Int} (hz : 0 ≤ z ∧ z < 18) (hr : ∀ k, 0 ≤ k → k < 324 → 0 ≤ (gA G 43 0 (k)) ∧ (gA G 43 0 (k)) ≤ 9) (hb : ∀ v, 0 ≤ v → v < 18 → 0 ≤ (gA G 44 0 (v)) ∧ (gA G 44 0 (v)) ≤ 1000000000) (hP : P none (uA G 44 0 (ldF (gA G 44 0) (fun v => gA G 43 0 (z * 18 + v)) z 18))) : PW l w M_X2_leadOn (d + 1) 0 [some (vR 2 (0)), some (vI (z)), none, none] [] G P := by
  refine pw_const r_2_leadOn_0 ?_
  refine pw_istore (ls' := [some (vR 2 (0)), some (vI (z)), some (vI (0)), none]) r_2_leadOn_1 rfl rfl ?_
  have L2 : ∀ (nF : Nat) (n : Int), (hn : 0 ≤ n ∧ n ≤ 18) → (18 - n).toNat < nF → PW l w M_X2_leadOn (d + 1) 2 [some (vR 2 (0)), some (vI (z)), some (vI (n)), none] [] (uA G 44 (0) (ldF (gA G 44 0) (fun v => gA G 43 0 (z * 18 + v)) z n)) P := by
    intro nF
    induction nF with
    | zero => intro _ _ hM; exact absurd hM (Nat.not_lt_zero _)
    | succ nF ih2 =>
      intro n hn hM2
      refine pw_iload r_2_leadOn_2 rfl ?_
      refine pw_const r_2_leadOn_3 ?_
      refine pw_icmp_ge r_2_leadOn_5 (fun h05 => ?_) (fun h05 => ?_)
      · skip
        refine pw_vret r_2_leadOn_53 rfl (Nat.le_refl _) ⟨rfl, ?_⟩
        rw [show n = 18 by omega]
        exact hP
      · skip
        have hr1 := hr (z * 18 + n) (by omega) (by omega)
        refine pw_aload r_2_leadOn_8 rfl ?_
        refine pw_getR r_2_leadOn_9 fs_2_3 (by decide) ?_
        refine pw_iload r_2_leadOn_12 rfl ?_
        refine pw_const r_2_leadOn_13 ?_
        refine pw_imul r_2_leadOn_15 (by omega) ?_
        refine pw_iload r_2_leadOn_16 rfl ?_
        refine pw_iadd r_2_leadOn_17 (by omega) ?_
        refine pw_ialdv (v := gA G 43 (0) (((z * 18) + n))) r_2_leadOn_18 sh43 (by omega) (by omega) (by first | rfl | simp [gF_sF, gF_sA, gF_uA, gF_sD, gA_sF, gA_sA, gA_uA, gA_sD, gD_sF, gD_sA, gD_uA, gD_sD]) ?_
        refine pw_istore (ls' := [some (vR 2 (0)), some (vI (z)), some (vI (n)), some (vI (gA G 43 (0) (((z * 18) + n))))]) r_2_leadOn_19 rfl rfl ?_
        refine pw_iload r_2_leadOn_20 rfl ?_
        refine pw_if_le r_2_leadOn_21 (fun h21 => ?_) (fun h21 => ?_)
        · skip
          refine pw_iinc (b := 0) (ls' := [some (vR 2 (0)), some (vI (z)), some (vI ((n + 1))), some (vI (gA G 43 (0) (((z * 18) + n))))]) r_2_leadOn_47 rfl rfl (by omega) rfl ?_
          refine pw_goto r_2_leadOn_50 ?_
          refine pw_weakL (ls' := [some (vR 2 (0)), some (vI (z)), some (vI ((n + 1))), none]) (⟨rfl, ⟨rfl, ⟨rfl, trivial⟩⟩⟩) ?_
          refine pw_eqG (G' := uA G 44 (0) (ldF (gA G 44 0) (fun v => gA G 43 0 (z * 18 + v)) z (n + 1))) (by first | (rw [sA_uA, ldF_s (e := fun v => gA G 43 0 (z * 18 + v)) hn.1 (by show 0 < gA G 43 0 (z * 18 + n); omega)]) | (rw [ldF_k (e := fun v => gA G 43 0 (z * 18 + v)) (by show ¬ 0 < gA G 43 0 (z * 18 + n); omega)])) ?_
          exact ih2 ((n + 1)) (by first | assumption | omega) (by omega)
        · skip
          have hbz := hb z hz.1 hz.2
          have hbn := hb n hn.1 (by omega)
          refine pw_aload r_2_leadOn_24 rfl ?_
          refine pw_getR r_2_leadOn_25 fs_2_4 (by decide) ?_
          refine pw_iload r_2_leadOn_28 rfl ?_
          refine pw_aload r_2_leadOn_29 rfl ?_
          refine pw_getR r_2_leadOn_30 fs_2_4 (by decide) ?_
          refine pw_iload r_2_leadOn_33 rfl ?_
          refine pw_ialdv (v := (ldF (gA G 44 0) (fun v => gA G 43 0 (z * 18 + v)) z n) (n)) r_2_leadOn_34 sh44 (by omega) (by omega) (by first | rfl | simp [gF_sF, gF_sA, gF_uA, gF_sD, gA_sF, gA_sA, gA_uA, gA_sD, gD_sF, gD_sA, gD_uA, gD_sD]) ?_
          refine pw_top (b := gA G 44 0 n) (ldF_n) ?_
          refine pw_aload r_2_leadOn_35 rfl ?_
          refine pw_getR r_2_leadOn_36 fs_2_4 (by decide) ?_
          refine pw_iload r_2_leadOn_39 rfl ?_
          refine pw_ialdv (v := (ldF (gA G 44 0) (fun v => gA G 43 0 (z * 18 + v)) z n) (z)) r_2_leadOn_40 sh44 (by omega) (by omega) (by first | rfl | simp [gF_sF, gF_sA, gF_uA, gF_sD, gA_sF, gA_sA, gA_uA, gA_sD, gD_sF, gD_sA, gD_uA, gD_sD]) ?_
          refine pw_top (b := gA G 44 0 z) (ldF_at) ?_
          refine pw_iload r_2_leadOn_41 rfl ?_
          refine pw_iadd r_2_leadOn_42 (by omega) ?_
          refine pw_mmin r_2_leadOn_43 rfl (Nat.le_of_ble_eq_true rfl) (Nat.le_refl _) ?_
          refine pw_iast r_2_leadOn_46 sh44 (by omega) (by omega) ?_
          refine pw_iinc (b := 0) (ls' := [some (vR 2 (0)), some (vI (z)), some (vI ((n + 1))), some (vI (gA G 43 (0) (((z * 18) + n))))]) r_2_leadOn_47 rfl rfl (by omega) rfl ?_
          refine pw_goto r_2_leadOn_50 ?_
          refine pw_weakL (ls' := [some (vR 2 (0)), some (vI (z)), some (vI ((n + 1))), none]) (⟨rfl, ⟨rfl, ⟨rfl, trivial⟩⟩⟩) ?_
          refine pw_eqG (G' := uA G 44 (0) (ldF (gA G 44 0) (fun v => gA G 43 0 (z * 18 + v)) z (n + 1))) (by first | (rw [sA_uA, ldF_s (e := fun v => gA G 43 0 (z * 18 + v)) hn.1 (by show 0 < gA G 43 0 (z * 18 + n); omega)]) | (rw [ldF_k (e := fun v => gA G 43 0 (z * 18 + v)) (by show ¬ 0 < gA G 43 0 (z * 18 + n); omega)])) ?_
          exact ih2 ((n + 1)) (by first | assumption | omega) (by omega)
  refine pw_eqG (G' := uA G 44 (0) (ldF (gA G 44 0) (fun v => gA G 43 0 (z * 18 + v)) z 0)) (by rw [ldF_0]; exact (uA_self G 44 0).symm) ?_
  exact L2 _ (0) (by first | assumption | omega) (Nat.lt_succ_self _)
set_option maxRecDepth 10000 in
theorem sp_X2_nearest {l : Launch} {w : Wo} {d : Nat} {G : PH} {P : Option PV → PH → Prop} (hP : ∀ zr, NrOk (gA G 45 0) (gA G 44 0) 18 zr → P (some (vI zr)) G) : PW l w M_X2_nearest (d + 0) 0 [some (vR 2 (0)), none, none] [] G P := by
  refine pw_const r_2_nearest_0 ?_
  refine pw_istore (ls' := [some (vR 2 (0)), some (vI ((-1))), none]) r_2_nearest_1 rfl rfl ?_
  refine pw_const r_2_nearest_2 ?_
  refine pw_istore (ls' := [some (vR 2 (0)), some (vI ((-1))), some (vI (0))]) r_2_nearest_3 rfl rfl ?_
  have L4 : ∀ (nF : Nat) (z n : Int), (hn : 0 ≤ n ∧ n ≤ 18) → (hk : NrOk (gA G 45 0) (gA G 44 0) n z) → (18 - n).toNat < nF → PW l w M_X2_nearest (d + 0) 4 [some (vR 2 (0)), some (vI (z)), some (vI (n))] [] G P := by
    intro nF
    induction nF with
    | zero => intro _ _ _ _ hM; exact absurd hM (Nat.not_lt_zero _)
    | succ nF ih4 =>
      intro z n hn hk hM4
      have hz : -1 ≤ z ∧ z < 18 := by rcases hk with ⟨q, -⟩ | ⟨q1, q2, -⟩ <;> omega
      refine pw_iload r_2_nearest_4 rfl ?_
      refine pw_const r_2_nearest_5 ?_
      refine pw_icmp_ge r_2_nearest_7 (fun h07 => ?_) (fun h07 => ?_)
      · skip
        refine pw_iload r_2_nearest_57 rfl ?_
        refine pw_iret r_2_nearest_58 rfl (Nat.le_refl _) ⟨rfl, ?_⟩
        have e18 : n = 18 := by omega
        subst e18
        exact hP z hk
      · skip
        refine pw_aload r_2_nearest_10 rfl ?_
        refine pw_getR r_2_nearest_11 fs_2_5 (by decide) ?_
        refine pw_iload r_2_nearest_14 rfl ?_
        refine pw_zald r_2_nearest_15 sh45 (by omega) (by omega) ?_
        refine pw_if_ne r_2_nearest_16 (fun h16 => ?_) (fun h16 => ?_)
        · skip
          refine pw_iinc (b := 0) (ls' := [some (vR 2 (0)), some (vI (z)), some (vI ((n + 1)))]) r_2_nearest_51 rfl rfl (by omega) rfl ?_
          refine pw_goto r_2_nearest_54 ?_
          exact ih4 (z) ((n + 1)) (by first | assumption | omega) (by first | exact NrOk_skip hk (by omega) | exact NrOk_take hk (by omega) (by omega) (by omega) (by omega)) (by omega)
        · skip
          refine pw_aload r_2_nearest_19 rfl ?_
          refine pw_getR r_2_nearest_20 fs_2_4 (by decide) ?_
          refine pw_iload r_2_nearest_23 rfl ?_
          refine pw_iald r_2_nearest_24 sh44 (by omega) (by omega) ?_
          refine pw_const r_2_nearest_25 ?_
          refine pw_icmp_ge r_2_nearest_27 (fun h27 => ?_) (fun h27 => ?_)
          · skip
            refine pw_iinc (b := 0) (ls' := [some (vR 2 (0)), some (vI (z)), some (vI ((n + 1)))]) r_2_nearest_51 rfl rfl (by omega) rfl ?_
            refine pw_goto r_2_nearest_54 ?_
            exact ih4 (z) ((n + 1)) (by first | assumption | omega) (by first | exact NrOk_skip hk (by omega) | exact NrOk_take hk (by omega) (by omega) (by omega) (by omega)) (by omega)
          · skip
            refine pw_iload r_2_nearest_30 rfl ?_
            refine pw_if_lt r_2_nearest_31 (fun h31 => ?_) (fun h31 => ?_)
            · skip
              refine pw_iload r_2_nearest_49 rfl ?_
              refine pw_istore (ls' := [some (vR 2 (0)), some (vI (n)), some (vI (n))]) r_2_nearest_50 rfl rfl ?_
              refine pw_iinc (b := 0) (ls' := [some (vR 2 (0)), some (vI (n)), some (vI ((n + 1)))]) r_2_nearest_51 rfl rfl (by omega) rfl ?_
              refine pw_goto r_2_nearest_54 ?_
              exact ih4 (n) ((n + 1)) (by first | assumption | omega) (by first | exact NrOk_skip hk (by omega) | exact NrOk_take hk (by omega) (by omega) (by omega) (by omega)) (by omega)
            · skip
              refine pw_aload r_2_nearest_34 rfl ?_
              refine pw_getR r_2_nearest_35 fs_2_4 (by decide) ?_
              refine pw_iload r_2_nearest_38 rfl ?_
              refine pw_iald r_2_nearest_39 sh44 (by omega) (by omega) ?_
              refine pw_aload r_2_nearest_40 rfl ?_
              refine pw_getR r_2_nearest_41 fs_2_4 (by decide) ?_
              refine pw_iload r_2_nearest_44 rfl ?_
              refine pw_iald r_2_nearest_45 sh44 (by omega) (by omega) ?_
              refine pw_icmp_ge r_2_nearest_46 (fun h46 => ?_) (fun h46 => ?_)
              · skip
                refine pw_iinc (b := 0) (ls' := [some (vR 2 (0)), some (vI (z)), some (vI ((n + 1)))]) r_2_nearest_51 rfl rfl (by omega) rfl ?_
                refine pw_goto r_2_nearest_54 ?_
                exact ih4 (z) ((n + 1)) (by first | assumption | omega) (by first | exact NrOk_skip hk (by omega) | exact NrOk_take hk (by omega) (by omega) (by omega) (by omega)) (by omega)
              · skip
                refine pw_iload r_2_nearest_49 rfl ?_
                refine pw_istore (ls' := [some (vR 2 (0)), some (vI (n)), some (vI (n))]) r_2_nearest_50 rfl rfl ?_
                refine pw_iinc (b := 0) (ls' := [some (vR 2 (0)), some (vI (n)), some (vI ((n + 1)))]) r_2_nearest_51 rfl rfl (by omega) rfl ?_
                refine pw_goto r_2_nearest_54 ?_
                exact ih4 (n) ((n + 1)) (by first | assumption | omega) (by first | exact NrOk_skip hk (by omega) | exact NrOk_take hk (by omega) (by omega) (by omega) (by omega)) (by omega)
  exact L4 _ ((-1)) (0) (by first | assumption | omega) (NrOk_0 _ _) (Nat.lt_succ_self _)
set_option maxRecDepth 10000 in
theorem sp_X2_farFrom {l : Launch} {w : Wo} {d : Nat} {G : PH} {P : Option PV → PH → Prop} {c p : Int} (hc : 0 ≤ (gF G 2 0 2) ∧ (gF G 2 0 2) ≤ 16) (hr : ∀ k, 0 ≤ k → k < 324 → 0 ≤ (gA G 43 0 (k)) ∧ (gA G 43 0 (k)) ≤ 9) (h1 : ¬ ((0 ≤ c ∧ c < (gF G 2 0 2)) ∧ ((0 ≤ p ∧ p < (gF G 2 0 2)) ∨ p = 16 ∨ p = 17)) → P (some (vI (-1))) G) (h2 : (0 ≤ c ∧ c < (gF G 2 0 2)) → ((0 ≤ p ∧ p < (gF G 2 0 2)) ∨ p = 16 ∨ p = 17) → ∀ Dr fr, IsD (fun u v => (gA G 43 0 (u * 18 + v))) (fun u => ¬ (0 ≤ u ∧ u < (gF G 2 0 2)) ∨ (gA G 41 0 (u)) = (gA G 41 0 (c))) c 1000000000 Dr → (∀ v, 0 ≤ v → v < 18 → Dr v < 1000000000 → Dr v ≤ 162) → ∀ r, (1000000000 ≤ Dr p ∧ r = -4) ∨ (Dr p < 1000000000 ∧ r = Dr p) → P (some (vI r)) (uA (uA G 44 0 Dr) 45 0 fr)) : PW l w M_X2_farFrom (d + 2) 0 [some (vR 2 (0)), some (vI (c)), some (vI (p)), none, none] [] G P := by
  refine pw_aload r_2_farFrom_0 rfl ?_
  refine pw_iload r_2_farFrom_1 rfl ?_
  refine pw_callV (av := [vI (c)]) (st := []) (ls0 := [some (vR 2 (0)), some (vI (c))]) r_2_farFrom_2 rfl rfl rfl (Nat.le_refl _) ?_
  refine sp_X2_isCamp (by first | assumption | exact hc | omega) ?_
  refine pw_if_eqB r_2_farFrom_5 (fun h05 => ?_) (fun h05 => ?_)
  · skip
    refine pw_const r_2_farFrom_16 ?_
    refine pw_iret r_2_farFrom_17 rfl (Nat.le_refl _) ⟨rfl, ?_⟩
    exact h1 (by omega)
  · skip
    refine pw_aload r_2_farFrom_8 rfl ?_
    refine pw_iload r_2_farFrom_9 rfl ?_
    refine pw_callV (av := [vI (p)]) (st := []) (ls0 := [some (vR 2 (0)), some (vI (p))]) r_2_farFrom_10 rfl rfl rfl (Nat.le_refl _) ?_
    refine sp_X2_isPoint (by first | assumption | exact hc | omega) ?_
    refine pw_if_neB r_2_farFrom_13 (fun h13 => ?_) (fun h13 => ?_)
    · skip
      refine pw_const r_2_farFrom_18 ?_
      refine pw_istore (ls' := [some (vR 2 (0)), some (vI (c)), some (vI (p)), some (vI (0)), none]) r_2_farFrom_19 rfl rfl ?_
      have L20 : ∀ (nF : Nat) (n : Int) (D S : Int → Int), (hn : 0 ≤ n ∧ n ≤ 18) → (hD : ∀ v, 0 ≤ v → v < n → D v = 1000000000 ∧ S v = 0) → (18 - n).toNat < nF → PW l w M_X2_farFrom (d + 2) 20 [some (vR 2 (0)), some (vI (c)), some (vI (p)), some (vI (n)), none] [] (uA (uA G 44 (0) (D)) 45 (0) (S)) P := by
        intro nF
        induction nF with
        | zero => intro _ _ _ _ _ hM; exact absurd hM (Nat.not_lt_zero _)
        | succ nF ih20 =>
          intro n D S hn hD hM20
          refine pw_iload r_2_farFrom_20 rfl ?_
          refine pw_const r_2_farFrom_21 ?_
          refine pw_icmp_ge r_2_farFrom_23 (fun h23 => ?_) (fun h23 => ?_)
          · skip
            refine pw_aload r_2_farFrom_47 rfl ?_
            refine pw_getR r_2_farFrom_48 fs_2_4 (by decide) ?_
            refine pw_iload r_2_farFrom_51 rfl ?_
            refine pw_const r_2_farFrom_52 ?_
            refine pw_iast r_2_farFrom_53 sh44 (by omega) (by omega) ?_
            refine pw_iload r_2_farFrom_54 rfl ?_
            refine pw_istore (ls' := [some (vR 2 (0)), some (vI (c)), some (vI (p)), some (vI (c)), none]) r_2_farFrom_55 rfl rfl ?_
            refine pw_const r_2_farFrom_56 ?_
            refine pw_istore (ls' := [some (vR 2 (0)), some (vI (c)), some (vI (p)), some (vI (c)), some (vI (0))]) r_2_farFrom_57 rfl rfl ?_
            have L59 : ∀ (nF : Nat) (z i : Int) (D S : Int → Int), (hi : 0 ≤ i ∧ i ≤ 18) → (hk : NrOk S D 18 z) → (hd : DjI (fun u v => (gA G 43 0 (u * 18 + v))) (fun u => ¬ (0 ≤ u ∧ u < (gF G 2 0 2)) ∨ (gA G 41 0 (u)) = (gA G 41 0 (c))) c S D i) → (18 - i).toNat < nF → PW l w M_X2_farFrom (d + 2) 59 [some (vR 2 (0)), some (vI (c)), some (vI (p)), some (vI (z)), some (vI (i))] [] (uA (uA G 44 (0) (D)) 45 (0) (S)) P := by
              intro nF
              induction nF with
              | zero => intro _ _ _ _ _ _ _ hM; exact absurd hM (Nat.not_lt_zero _)
              | succ nF ih59 =>
                intro z i D S hi hk hd hM59
                have hz : -1 ≤ z ∧ z < 18 := by rcases hk with ⟨q, -⟩ | ⟨q1, q2, -⟩ <;> omega
                refine pw_iload r_2_farFrom_59 rfl ?_
                refine pw_const r_2_farFrom_61 ?_
                refine pw_icmp_ge r_2_farFrom_63 (fun h63 => ?_) (fun h63 => ?_)
                · skip
                  have hI := Dj_end hd hi hk (by omega)
                  refine pw_aload r_2_farFrom_122 rfl ?_
                  refine pw_getR r_2_farFrom_123 fs_2_4 (by decide) ?_
                  refine pw_iload r_2_farFrom_126 rfl ?_
                  refine pw_ialdv (v := (D) (p)) r_2_farFrom_127 sh44 (by omega) (by omega) (by first | rfl | simp [gF_sF, gF_sA, gF_uA, gF_sD, gA_sF, gA_sA, gA_uA, gA_sD, gD_sF, gD_sA, gD_uA, gD_sD]) ?_
                  refine pw_const r_2_farFrom_128 ?_
                  refine pw_icmp_lt r_2_farFrom_130 (fun h130 => ?_) (fun h130 => ?_)
                  · skip
                    refine pw_aload r_2_farFrom_138 rfl ?_
                    refine pw_getR r_2_farFrom_139 fs_2_4 (by decide) ?_
                    refine pw_iload r_2_farFrom_142 rfl ?_
                    refine pw_ialdv (v := (D) (p)) r_2_farFrom_143 sh44 (by omega) (by omega) (by first | rfl | simp [gF_sF, gF_sA, gF_uA, gF_sD, gA_sF, gA_sA, gA_uA, gA_sD, gD_sF, gD_sA, gD_uA, gD_sD]) ?_
                    refine pw_iret r_2_farFrom_144 rfl (Nat.le_refl _) ⟨rfl, ?_⟩
                    exact h2 (by omega) (by omega) D S hI.1 hI.2 _ (by omega)
                  · skip
                    refine pw_const r_2_farFrom_133 ?_
                    refine pw_goto r_2_farFrom_135 ?_
                    refine pw_iret r_2_farFrom_144 rfl (Nat.le_refl _) ⟨rfl, ?_⟩
                    exact h2 (by omega) (by omega) D S hI.1 hI.2 _ (by omega)
                · skip
                  refine pw_iload r_2_farFrom_66 rfl ?_
                  refine pw_if_lt r_2_farFrom_67 (fun h67 => ?_) (fun h67 => ?_)
                  · skip
                    have hI := Dj_end hd hi hk (by omega)
                    refine pw_aload r_2_farFrom_122 rfl ?_
                    refine pw_getR r_2_farFrom_123 fs_2_4 (by decide) ?_
                    refine pw_iload r_2_farFrom_126 rfl ?_
                    refine pw_ialdv (v := (D) (p)) r_2_farFrom_127 sh44 (by omega) (by omega) (by first | rfl | simp [gF_sF, gF_sA, gF_uA, gF_sD, gA_sF, gA_sA, gA_uA, gA_sD, gD_sF, gD_sA, gD_uA, gD_sD]) ?_
                    refine pw_const r_2_farFrom_128 ?_
                    refine pw_icmp_lt r_2_farFrom_130 (fun h130 => ?_) (fun h130 => ?_)
                    · skip
                      refine pw_aload r_2_farFrom_138 rfl ?_
                      refine pw_getR r_2_farFrom_139 fs_2_4 (by decide) ?_
                      refine pw_iload r_2_farFrom_142 rfl ?_
                      refine pw_ialdv (v := (D) (p)) r_2_farFrom_143 sh44 (by omega) (by omega) (by first | rfl | simp [gF_sF, gF_sA, gF_uA, gF_sD, gA_sF, gA_sA, gA_uA, gA_sD, gD_sF, gD_sA, gD_uA, gD_sD]) ?_
                      refine pw_iret r_2_farFrom_144 rfl (Nat.le_refl _) ⟨rfl, ?_⟩
                      exact h2 (by omega) (by omega) D S hI.1 hI.2 _ (by omega)
                    · skip
                      refine pw_const r_2_farFrom_133 ?_
                      refine pw_goto r_2_farFrom_135 ?_
                      refine pw_iret r_2_farFrom_144 rfl (Nat.le_refl _) ⟨rfl, ?_⟩
                      exact h2 (by omega) (by omega) D S hI.1 hI.2 _ (by omega)
                  · skip
                    refine pw_iload r_2_farFrom_70 rfl ?_
                    refine pw_const r_2_farFrom_71 ?_
                    refine pw_icmp_ge r_2_farFrom_73 (fun h73 => absurd h73 (by omega)) (fun h73 => ?_)
                    have hz0 : 0 ≤ z ∧ z < 18 := ⟨by omega, by omega⟩
                    refine pw_aload r_2_farFrom_76 rfl ?_
                    refine pw_getR r_2_farFrom_77 fs_2_5 (by decide) ?_
                    refine pw_iload r_2_farFrom_80 rfl ?_
                    refine pw_const r_2_farFrom_81 ?_
                    refine pw_zast r_2_farFrom_82 sh45 (by omega) (by omega) (by omega) ?_
                    refine pw_eqG (G' := uA (uA G 44 (0) (D)) 45 (0) ((upA S z 1))) (by first | rfl | (rw [uA_self]; done) | (rw [sA_uA]; done) | (rw [sA_eq]; done) | (simp (disch := decide) only [sA_uA, sA_uA_ne, uA_abs, uA_abs2, uA_uA]; done) | (simp (disch := decide) only [sA_eq, sA_uA, sA_uA_ne, uA_abs, uA_abs2, uA_uA]; done) | (refine PH_ext (fun _ _ _ => ?_) (fun _ _ _ => ?_) (fun _ _ _ => ?_) <;> simp only [gF_sF, gF_sA, gF_uA, gF_sD, gA_sF, gA_sA, gA_uA, gA_sD, gD_sF, gD_sA, gD_uA, gD_sD] <;> (repeat' split) <;> first | rfl | (exfalso; omega) | simp_all)) ?_
                    refine pw_aload r_2_farFrom_83 rfl ?_
                    refine pw_iload r_2_farFrom_84 rfl ?_
                    refine pw_callV (av := [vI (z)]) (st := []) (ls0 := [some (vR 2 (0)), some (vI (z))]) r_2_farFrom_85 rfl rfl rfl (Nat.le_refl _) ?_
                    refine sp_X2_isCamp (by first | assumption | exact hc | omega) ?_
                    refine pw_top (b := b2i (0 ≤ z ∧ z < (gF G 2 (0) 2))) (by first | rfl | simp (disch := decide) [gF_sF, gF_sA, gF_uA, gF_sD, gA_sF, gA_sA, gA_uA, gA_sD, gD_sF, gD_sA, gD_uA, gD_sD]) ?_
                    refine pw_if_eqB r_2_farFrom_88 (fun h88 => ?_) (fun h88 => ?_)
                    · skip
                      have hT : ¬ (0 ≤ z ∧ z < (gF G 2 0 2)) ∨ (gA G 41 0 (z)) = (gA G 41 0 (c)) := by omega
                      refine pw_aload r_2_farFrom_106 rfl ?_
                      refine pw_iload r_2_farFrom_107 rfl ?_
                      refine pw_callV (av := [vI (z)]) (st := []) (ls0 := [some (vR 2 (0)), some (vI (z)), none, none]) r_2_farFrom_108 rfl rfl rfl (Nat.le_refl _) ?_
                      refine sp_X2_leadOn (by first | assumption | exact hz | omega) (by first | assumption | exact hr | omega) (fun v a b => (show 0 ≤ D v ∧ D v ≤ 1000000000 by have := hd.2.1 v a b; omega)) ?_
                      refine pw_eqG (G' := uA (uA (uA G 44 (0) (D)) 45 (0) ((upA S z 1))) 44 (0) (ldF D (fun v => (gA G 43 (0) (z * 18 + v))) z 18)) (by first | rfl | simp (disch := decide) [gF_sF, gF_sA, gF_uA, gF_sD, gA_sF, gA_sA, gA_uA, gA_sD, gD_sF, gD_sA, gD_uA, gD_sD]) ?_
                      have hdn := Dj_step hd hi.1 (fun u v a b d e => (hr (u * 18 + v) (by omega) (by omega)).2) hk hz0.1 hT
                      refine pw_aload r_2_farFrom_111 rfl ?_
                      refine pw_callV (av := []) (st := []) (ls0 := [some (vR 2 (0)), none, none]) r_2_farFrom_112 rfl rfl rfl (Nat.le_refl _) ?_
                      refine sp_X2_nearest  ?_
                      intro zr hzr
                      refine pw_istore (ls' := [some (vR 2 (0)), some (vI (c)), some (vI (p)), some (vI (zr)), some (vI (i))]) r_2_farFrom_115 rfl rfl ?_
                      refine pw_iinc (b := 0) (ls' := [some (vR 2 (0)), some (vI (c)), some (vI (p)), some (vI (zr)), some (vI ((i + 1)))]) r_2_farFrom_116 rfl rfl (by omega) rfl ?_
                      refine pw_goto r_2_farFrom_119 ?_
                      refine pw_eqG (G' := uA (uA G 44 (0) (ldF D (fun v => (gA G 43 (0) (z * 18 + v))) z 18)) 45 (0) ((upA S z 1))) (by first | rfl | (rw [uA_self]; done) | (rw [sA_uA]; done) | (rw [sA_eq]; done) | (simp (disch := decide) only [sA_uA, sA_uA_ne, uA_abs, uA_abs2, uA_uA]; done) | (simp (disch := decide) only [sA_eq, sA_uA, sA_uA_ne, uA_abs, uA_abs2, uA_uA]; done) | (refine PH_ext (fun _ _ _ => ?_) (fun _ _ _ => ?_) (fun _ _ _ => ?_) <;> simp only [gF_sF, gF_sA, gF_uA, gF_sD, gA_sF, gA_sA, gA_uA, gA_sD, gD_sF, gD_sA, gD_uA, gD_sD] <;> (repeat' split) <;> first | rfl | (exfalso; omega) | simp_all)) ?_
                      exact ih59 (zr) ((i + 1)) (ldF D (fun v => (gA G 43 (0) (z * 18 + v))) z 18) ((upA S z 1)) (by first | assumption | omega) (hzr) (hdn) (by omega)
                    · skip
                      refine pw_aload r_2_farFrom_91 rfl ?_
                      refine pw_getR r_2_farFrom_92 fs_2_0 (by decide) ?_
                      refine pw_iload r_2_farFrom_95 rfl ?_
                      refine pw_ialdv (v := gA G 41 (0) (z)) r_2_farFrom_96 sh41 (by omega) (by omega) (by first | rfl | simp [gF_sF, gF_sA, gF_uA, gF_sD, gA_sF, gA_sA, gA_uA, gA_sD, gD_sF, gD_sA, gD_uA, gD_sD]) ?_
                      refine pw_aload r_2_farFrom_97 rfl ?_
                      refine pw_getR r_2_farFrom_98 fs_2_0 (by decide) ?_
                      refine pw_iload r_2_farFrom_101 rfl ?_
                      refine pw_ialdv (v := gA G 41 (0) (c)) r_2_farFrom_102 sh41 (by omega) (by omega) (by first | rfl | simp [gF_sF, gF_sA, gF_uA, gF_sD, gA_sF, gA_sA, gA_uA, gA_sD, gD_sF, gD_sA, gD_uA, gD_sD]) ?_
                      refine pw_icmp_ne r_2_farFrom_103 (fun h103 => ?_) (fun h103 => ?_)
                      · skip
                        have hdn := Dj_stop hd hi.1 hk hz0.1 (show ¬ (¬ (0 ≤ z ∧ z < (gF G 2 0 2)) ∨ (gA G 41 0 (z)) = (gA G 41 0 (c))) by omega)
                        refine pw_aload r_2_farFrom_111 rfl ?_
                        refine pw_callV (av := []) (st := []) (ls0 := [some (vR 2 (0)), none, none]) r_2_farFrom_112 rfl rfl rfl (Nat.le_refl _) ?_
                        refine sp_X2_nearest  ?_
                        intro zr hzr
                        refine pw_istore (ls' := [some (vR 2 (0)), some (vI (c)), some (vI (p)), some (vI (zr)), some (vI (i))]) r_2_farFrom_115 rfl rfl ?_
                        refine pw_iinc (b := 0) (ls' := [some (vR 2 (0)), some (vI (c)), some (vI (p)), some (vI (zr)), some (vI ((i + 1)))]) r_2_farFrom_116 rfl rfl (by omega) rfl ?_
                        refine pw_goto r_2_farFrom_119 ?_
                        exact ih59 (zr) ((i + 1)) (D) ((upA S z 1)) (by first | assumption | omega) (hzr) (hdn) (by omega)
                      · skip
                        have hT : ¬ (0 ≤ z ∧ z < (gF G 2 0 2)) ∨ (gA G 41 0 (z)) = (gA G 41 0 (c)) := by omega
                        refine pw_aload r_2_farFrom_106 rfl ?_
                        refine pw_iload r_2_farFrom_107 rfl ?_
                        refine pw_callV (av := [vI (z)]) (st := []) (ls0 := [some (vR 2 (0)), some (vI (z)), none, none]) r_2_farFrom_108 rfl rfl rfl (Nat.le_refl _) ?_
                        refine sp_X2_leadOn (by first | assumption | exact hz | omega) (by first | assumption | exact hr | omega) (fun v a b => (show 0 ≤ D v ∧ D v ≤ 1000000000 by have := hd.2.1 v a b; omega)) ?_
                        refine pw_eqG (G' := uA (uA (uA G 44 (0) (D)) 45 (0) ((upA S z 1))) 44 (0) (ldF D (fun v => (gA G 43 (0) (z * 18 + v))) z 18)) (by first | rfl | simp (disch := decide) [gF_sF, gF_sA, gF_uA, gF_sD, gA_sF, gA_sA, gA_uA, gA_sD, gD_sF, gD_sA, gD_uA, gD_sD]) ?_
                        have hdn := Dj_step hd hi.1 (fun u v a b d e => (hr (u * 18 + v) (by omega) (by omega)).2) hk hz0.1 hT
                        refine pw_aload r_2_farFrom_111 rfl ?_
                        refine pw_callV (av := []) (st := []) (ls0 := [some (vR 2 (0)), none, none]) r_2_farFrom_112 rfl rfl rfl (Nat.le_refl _) ?_
                        refine sp_X2_nearest  ?_
                        intro zr hzr
                        refine pw_istore (ls' := [some (vR 2 (0)), some (vI (c)), some (vI (p)), some (vI (zr)), some (vI (i))]) r_2_farFrom_115 rfl rfl ?_
                        refine pw_iinc (b := 0) (ls' := [some (vR 2 (0)), some (vI (c)), some (vI (p)), some (vI (zr)), some (vI ((i + 1)))]) r_2_farFrom_116 rfl rfl (by omega) rfl ?_
                        refine pw_goto r_2_farFrom_119 ?_
                        refine pw_eqG (G' := uA (uA G 44 (0) (ldF D (fun v => (gA G 43 (0) (z * 18 + v))) z 18)) 45 (0) ((upA S z 1))) (by first | rfl | (rw [uA_self]; done) | (rw [sA_uA]; done) | (rw [sA_eq]; done) | (simp (disch := decide) only [sA_uA, sA_uA_ne, uA_abs, uA_abs2, uA_uA]; done) | (simp (disch := decide) only [sA_eq, sA_uA, sA_uA_ne, uA_abs, uA_abs2, uA_uA]; done) | (refine PH_ext (fun _ _ _ => ?_) (fun _ _ _ => ?_) (fun _ _ _ => ?_) <;> simp only [gF_sF, gF_sA, gF_uA, gF_sD, gA_sF, gA_sA, gA_uA, gA_sD, gD_sF, gD_sA, gD_uA, gD_sD] <;> (repeat' split) <;> first | rfl | (exfalso; omega) | simp_all)) ?_
                        exact ih59 (zr) ((i + 1)) (ldF D (fun v => (gA G 43 (0) (z * 18 + v))) z 18) ((upA S z 1)) (by first | assumption | omega) (hzr) (hdn) (by omega)
            refine pw_eqG (G' := uA (uA G 44 (0) (upA D c 0)) 45 (0) (S)) (by first | rfl | (rw [uA_self]; done) | (rw [sA_uA]; done) | (rw [sA_eq]; done) | (simp (disch := decide) only [sA_uA, sA_uA_ne, uA_abs, uA_abs2, uA_uA]; done) | (simp (disch := decide) only [sA_eq, sA_uA, sA_uA_ne, uA_abs, uA_abs2, uA_uA]; done) | (refine PH_ext (fun _ _ _ => ?_) (fun _ _ _ => ?_) (fun _ _ _ => ?_) <;> simp only [gF_sF, gF_sA, gF_uA, gF_sD, gA_sF, gA_sA, gA_uA, gA_sD, gD_sF, gD_sA, gD_uA, gD_sD] <;> (repeat' split) <;> first | rfl | (exfalso; omega) | simp_all)) ?_
            exact L59 _ (c) (0) (upA D c 0) (S) (by first | assumption | omega) (Or.inr ⟨by omega, by omega, (hD c (by omega) (by omega)).2, by show upA D c 0 c < _; unfold upA; rw [if_pos rfl]; decide, fun v a b _ => by have := (hD v a (by omega)).1; unfold upA; rw [if_pos rfl]; split <;> omega⟩) (Dj_0 (by omega) (by omega) (fun v a b => (hD v a (by omega)).1) (fun v a b => (hD v a (by omega)).2)) (Nat.lt_succ_self _)
          · skip
            refine pw_aload r_2_farFrom_26 rfl ?_
            refine pw_getR r_2_farFrom_27 fs_2_4 (by decide) ?_
            refine pw_iload r_2_farFrom_30 rfl ?_
            refine pw_const r_2_farFrom_31 ?_
            refine pw_iast r_2_farFrom_33 sh44 (by omega) (by omega) ?_
            refine pw_aload r_2_farFrom_34 rfl ?_
            refine pw_getR r_2_farFrom_35 fs_2_5 (by decide) ?_
            refine pw_iload r_2_farFrom_38 rfl ?_
            refine pw_const r_2_farFrom_39 ?_
            refine pw_zast r_2_farFrom_40 sh45 (by omega) (by omega) (by omega) ?_
            refine pw_iinc (b := 0) (ls' := [some (vR 2 (0)), some (vI (c)), some (vI (p)), some (vI ((n + 1))), none]) r_2_farFrom_41 rfl rfl (by omega) rfl ?_
            refine pw_goto r_2_farFrom_44 ?_
            refine pw_eqG (G' := uA (uA G 44 (0) ((upA D n 1000000000))) 45 (0) ((upA S n 0))) (by first | rfl | (rw [uA_self]; done) | (rw [sA_uA]; done) | (rw [sA_eq]; done) | (simp (disch := decide) only [sA_uA, sA_uA_ne, uA_abs, uA_abs2, uA_uA]; done) | (simp (disch := decide) only [sA_eq, sA_uA, sA_uA_ne, uA_abs, uA_abs2, uA_uA]; done) | (refine PH_ext (fun _ _ _ => ?_) (fun _ _ _ => ?_) (fun _ _ _ => ?_) <;> simp only [gF_sF, gF_sA, gF_uA, gF_sD, gA_sF, gA_sA, gA_uA, gA_sD, gD_sF, gD_sA, gD_uA, gD_sD] <;> (repeat' split) <;> first | rfl | (exfalso; omega) | simp_all)) ?_
            exact ih20 ((n + 1)) ((upA D n 1000000000)) ((upA S n 0)) (by first | assumption | omega) (fun v a b => (Classical.em (v = n)).elim (fun e => ⟨if_pos e, if_pos e⟩) (fun e => ⟨(if_neg e).trans (hD v a (by omega)).1, (if_neg e).trans (hD v a (by omega)).2⟩)) (by omega)
      refine pw_eqG (G' := uA (uA G 44 (0) (gA G 44 0)) 45 (0) (gA G 45 0)) (by rw [uA_comm _ _ _ _ _ _ _ (by decide), uA_self, uA_self]) ?_
      exact L20 _ (0) (gA G 44 0) (gA G 45 0) (by first | assumption | omega) (fun v a b => by omega) (Nat.lt_succ_self _)
    · skip
      refine pw_const r_2_farFrom_16 ?_
      refine pw_iret r_2_farFrom_17 rfl (Nat.le_refl _) ⟨rfl, ?_⟩
      exact h1 (by omega)
set_option maxRecDepth 10000 in
theorem sp_X12_farOf {l : Launch} {w : Wo} {d : Nat} {G : PH} {P : Option PV → PH → Prop} {c p : Int} (hc : 0 ≤ c ∧ c < 16) (hp : 0 ≤ p ∧ p < 18) (hr : ∀ k, 0 ≤ k → k < 324 → 0 ≤ (gA G 202 0 (k)) ∧ (gA G 202 0 (k)) ≤ 9) (hP : ∀ Dr, IsD (fun u v => (gA G 202 0 (18 * u + v))) (fun u => u = c ∨ 16 ≤ u ∨ (gA G 200 0 (u)) = (gA G 200 0 (c))) c 100000 Dr → P (some (vI (Dr p))) (uA G 234 0 Dr)) : PW l w M_X12_farOf (d + 0) 0 [some (vR 12 (0)), some (vI (c)), some (vI (p)), none, none, none, none, none] [] G P := by
  refine pw_const r_12_farOf_0 ?_
  refine pw_istore (ls' := [some (vR 12 (0)), some (vI (c)), some (vI (p)), some (vI (0)), none, none, none, none]) r_12_farOf_1 rfl rfl ?_
  have L2 : ∀ (nF : Nat) (n : Int) (D : Int → Int), (hn : 0 ≤ n ∧ n ≤ 18) → (hD : ∀ v, 0 ≤ v → v < n → D v = if v = c then 0 else 100000) → (18 - n).toNat < nF → PW l w M_X12_farOf (d + 0) 2 [some (vR 12 (0)), some (vI (c)), some (vI (p)), some (vI (n)), none, none, none, none] [] (uA G 234 (0) (D)) P := by
    intro nF
    induction nF with
    | zero => intro _ _ _ _ hM; exact absurd hM (Nat.not_lt_zero _)
    | succ nF ih2 =>
      intro n D hn hD hM2
      refine pw_iload r_12_farOf_2 rfl ?_
      refine pw_const r_12_farOf_3 ?_
      refine pw_icmp_ge r_12_farOf_5 (fun h05 => ?_) (fun h05 => ?_)
      · skip
        refine pw_const r_12_farOf_32 ?_
        refine pw_istore (ls' := [some (vR 12 (0)), some (vI (c)), some (vI (p)), some (vI (1)), none, none, none, none]) r_12_farOf_33 rfl rfl ?_
        have L34 : ∀ (nF : Nat) (m : Int) (D : Int → Int), (hm : m = 0 ∨ m = 1) → (h0 : D c = 0) → (hb : ∀ v, 0 ≤ v → v < 18 → 0 ≤ D v ∧ D v ≤ 100000) → (hw : ∀ v, 0 ≤ v → v < 18 → D v < 100000 → ∃ k, Wk (fun u v => (gA G 202 0 (18 * u + v))) (fun u => u = c ∨ 16 ≤ u ∨ (gA G 200 0 (u)) = (gA G 200 0 (c))) c k v (D v)) → (hx : (m = 0 → ∀ u1 v1, 0 ≤ u1 → u1 < 18 → 0 ≤ v1 → v1 < 18 → True → (u1 = c ∨ 16 ≤ u1 ∨ (gA G 200 0 (u1)) = (gA G 200 0 (c))) → 0 < (gA G 202 0 (18 * u1 + v1)) → D u1 < 100000 → D v1 ≤ D u1 + (gA G 202 0 (18 * u1 + v1)))) → (2 * sumI D 18 + m).toNat < nF → PW l w M_X12_farOf (d + 0) 34 [some (vR 12 (0)), some (vI (c)), some (vI (p)), some (vI (m)), none, none, none, none] [] (uA G 234 (0) (D)) P := by
          intro nF
          induction nF with
          | zero => intro _ _ _ _ _ _ _ hM; exact absurd hM (Nat.not_lt_zero _)
          | succ nF ih34 =>
            intro m D hm h0 hb hw hx hM34
            have hsn := sumI_nn (f := D) (n := 18) (by decide) (fun i a b => (hb i a b).1)
            refine pw_iload r_12_farOf_34 rfl ?_
            refine pw_if_eq r_12_farOf_35 (fun h35 => ?_) (fun h35 => ?_)
            · skip
              refine pw_aload r_12_farOf_175 rfl ?_
              refine pw_getR r_12_farOf_176 fs_12_43 (by decide) ?_
              refine pw_iload r_12_farOf_179 rfl ?_
              refine pw_ialdv (v := (D) (p)) r_12_farOf_180 sh234 (by omega) (by omega) (by first | rfl | simp [gF_sF, gF_sA, gF_uA, gF_sD, gA_sF, gA_sA, gA_uA, gA_sD, gD_sF, gD_sA, gD_uA, gD_sD]) ?_
              refine pw_iret r_12_farOf_181 rfl (Nat.le_refl _) ⟨rfl, ?_⟩
              exact hP D ⟨h0, hb, fun u v a b d f hT hE hDu => hx (by omega) u v a b d f trivial hT hE hDu, hw⟩
            · skip
              refine pw_const r_12_farOf_38 ?_
              refine pw_istore (ls' := [some (vR 12 (0)), some (vI (c)), some (vI (p)), some (vI (0)), none, none, none, none]) r_12_farOf_39 rfl rfl ?_
              refine pw_const r_12_farOf_40 ?_
              refine pw_istore (ls' := [some (vR 12 (0)), some (vI (c)), some (vI (p)), some (vI (0)), some (vI (0)), none, none, none]) r_12_farOf_41 rfl rfl ?_
              have L43 : ∀ (nF : Nat) (m u : Int) (D1 : Int → Int), (hm : m = 0 ∨ m = 1) → (h0 : D1 c = 0) → (hb : ∀ v, 0 ≤ v → v < 18 → 0 ≤ D1 v ∧ D1 v ≤ 100000) → (hw : ∀ v, 0 ≤ v → v < 18 → D1 v < 100000 → ∃ k, Wk (fun u v => (gA G 202 0 (18 * u + v))) (fun u => u = c ∨ 16 ≤ u ∨ (gA G 200 0 (u)) = (gA G 200 0 (c))) c k v (D1 v)) → (hu : 0 ≤ u ∧ u ≤ 18) → (hs : sumI D1 18 + m ≤ sumI D 18) → (hx : (m = 0 → ∀ u1 v1, 0 ≤ u1 → u1 < 18 → 0 ≤ v1 → v1 < 18 → u1 < u → (u1 = c ∨ 16 ≤ u1 ∨ (gA G 200 0 (u1)) = (gA G 200 0 (c))) → 0 < (gA G 202 0 (18 * u1 + v1)) → D1 u1 < 100000 → D1 v1 ≤ D1 u1 + (gA G 202 0 (18 * u1 + v1)))) → (18 - u).toNat < nF → PW l w M_X12_farOf (d + 0) 43 [some (vR 12 (0)), some (vI (c)), some (vI (p)), some (vI (m)), some (vI (u)), none, none, none] [] (uA G 234 (0) (D1)) P := by
                intro nF
                induction nF with
                | zero => intro _ _ _ _ _ _ _ _ _ _ hM; exact absurd hM (Nat.not_lt_zero _)
                | succ nF ih43 =>
                  intro m u D1 hm h0 hb hw hu hs hx hM43
                  refine pw_iload r_12_farOf_43 rfl ?_
                  refine pw_const r_12_farOf_45 ?_
                  refine pw_icmp_ge r_12_farOf_47 (fun h47 => ?_) (fun h47 => ?_)
                  · skip
                    refine pw_goto r_12_farOf_172 ?_
                    refine pw_weakL (ls' := [some (vR 12 (0)), some (vI (c)), some (vI (p)), some (vI (m)), none, none, none, none]) (⟨rfl, ⟨rfl, ⟨rfl, ⟨rfl, trivial⟩⟩⟩⟩) ?_
                    exact ih34 (m) (D1) (by first | assumption | omega) (h0) (hb) (hw) (fun e u1 v1 a b d f _ => hx e u1 v1 a b d f (by omega)) (by omega)
                  · skip
                    have L84 : ∀ (t : Int), (ht : (t = 1 ∧ (u = c ∨ 16 ≤ u ∨ (gA G 200 0 (u)) = (gA G 200 0 (c)))) ∨ (t = 0 ∧ ¬ (u = c ∨ 16 ≤ u ∨ (gA G 200 0 (u)) = (gA G 200 0 (c))))) → PW l w M_X12_farOf (d + 0) 84 [some (vR 12 (0)), some (vI (c)), some (vI (p)), some (vI (m)), some (vI (u)), none, none, none] [vI (t)] (uA G 234 (0) (D1)) P := by
                      intro t ht
                      refine pw_istore (ls' := [some (vR 12 (0)), some (vI (c)), some (vI (p)), some (vI (m)), some (vI (u)), some (vI (t)), none, none]) r_12_farOf_84 rfl rfl ?_
                      refine pw_const r_12_farOf_86 ?_
                      refine pw_istore (ls' := [some (vR 12 (0)), some (vI (c)), some (vI (p)), some (vI (m)), some (vI (u)), some (vI (t)), some (vI (0)), none]) r_12_farOf_87 rfl rfl ?_
                      have L89 : ∀ (nF : Nat) (m v : Int) (D1 : Int → Int), (hm : m = 0 ∨ m = 1) → (h0 : D1 c = 0) → (hb : ∀ v, 0 ≤ v → v < 18 → 0 ≤ D1 v ∧ D1 v ≤ 100000) → (hw : ∀ v, 0 ≤ v → v < 18 → D1 v < 100000 → ∃ k, Wk (fun u v => (gA G 202 0 (18 * u + v))) (fun u => u = c ∨ 16 ≤ u ∨ (gA G 200 0 (u)) = (gA G 200 0 (c))) c k v (D1 v)) → (hv : 0 ≤ v ∧ v ≤ 18) → (hs : sumI D1 18 + m ≤ sumI D 18) → (hx : (m = 0 → ∀ u1 v1, 0 ≤ u1 → u1 < 18 → 0 ≤ v1 → v1 < 18 → (u1 < u ∨ (u1 = u ∧ v1 < v)) → (u1 = c ∨ 16 ≤ u1 ∨ (gA G 200 0 (u1)) = (gA G 200 0 (c))) → 0 < (gA G 202 0 (18 * u1 + v1)) → D1 u1 < 100000 → D1 v1 ≤ D1 u1 + (gA G 202 0 (18 * u1 + v1)))) → (18 - v).toNat < nF → PW l w M_X12_farOf (d + 0) 89 [some (vR 12 (0)), some (vI (c)), some (vI (p)), some (vI (m)), some (vI (u)), some (vI (t)), some (vI (v)), none] [] (uA G 234 (0) (D1)) P := by
                        intro nF
                        induction nF with
                        | zero => intro _ _ _ _ _ _ _ _ _ _ hM; exact absurd hM (Nat.not_lt_zero _)
                        | succ nF ih89 =>
                          intro m v D1 hm h0 hb hw hv hs hx hM89
                          refine pw_iload r_12_farOf_89 rfl ?_
                          refine pw_const r_12_farOf_91 ?_
                          refine pw_icmp_ge r_12_farOf_93 (fun h93 => ?_) (fun h93 => ?_)
                          · skip
                            refine pw_iinc (b := 0) (ls' := [some (vR 12 (0)), some (vI (c)), some (vI (p)), some (vI (m)), some (vI ((u + 1))), some (vI (t)), some (vI (v)), none]) r_12_farOf_166 rfl rfl (by omega) rfl ?_
                            refine pw_goto r_12_farOf_169 ?_
                            refine pw_weakL (ls' := [some (vR 12 (0)), some (vI (c)), some (vI (p)), some (vI (m)), some (vI ((u + 1))), none, none, none]) (⟨rfl, ⟨rfl, ⟨rfl, ⟨rfl, ⟨rfl, trivial⟩⟩⟩⟩⟩) ?_
                            exact ih43 (m) ((u + 1)) (D1) (by first | assumption | omega) (by first | assumption | omega) (by first | assumption | omega) (by first | assumption | omega) (by first | assumption | omega) (by first | assumption | omega) (fun e u1 v1 a b d f g => hx e u1 v1 a b d f (by omega)) (by omega)
                          · skip
                            have hr1 := hr (18 * u + v) (by omega) (by omega)
                            have hbu := hb u (by omega) (by omega)
                            have hbv := hb v (by omega) (by omega)
                            refine pw_aload r_12_farOf_96 rfl ?_
                            refine pw_getR r_12_farOf_97 fs_12_4 (by decide) ?_
                            refine pw_const r_12_farOf_100 ?_
                            refine pw_iload r_12_farOf_102 rfl ?_
                            refine pw_imul r_12_farOf_104 (by omega) ?_
                            refine pw_iload r_12_farOf_105 rfl ?_
                            refine pw_iadd r_12_farOf_107 (by omega) ?_
                            refine pw_ialdv (v := gA G 202 (0) (((18 * u) + v))) r_12_farOf_108 sh202 (by omega) (by omega) (by first | rfl | simp [gF_sF, gF_sA, gF_uA, gF_sD, gA_sF, gA_sA, gA_uA, gA_sD, gD_sF, gD_sA, gD_uA, gD_sD]) ?_
                            refine pw_istore (ls' := [some (vR 12 (0)), some (vI (c)), some (vI (p)), some (vI (m)), some (vI (u)), some (vI (t)), some (vI (v)), some (vI (gA G 202 (0) (((18 * u) + v))))]) r_12_farOf_109 rfl rfl ?_
                            refine pw_iload r_12_farOf_111 rfl ?_
                            refine pw_if_eq r_12_farOf_113 (fun h113 => ?_) (fun h113 => ?_)
                            · skip
                              refine pw_iinc (b := 0) (ls' := [some (vR 12 (0)), some (vI (c)), some (vI (p)), some (vI (m)), some (vI (u)), some (vI (t)), some (vI ((v + 1))), some (vI (gA G 202 (0) (((18 * u) + v))))]) r_12_farOf_160 rfl rfl (by omega) rfl ?_
                              refine pw_goto r_12_farOf_163 ?_
                              refine pw_weakL (ls' := [some (vR 12 (0)), some (vI (c)), some (vI (p)), some (vI (m)), some (vI (u)), some (vI (t)), some (vI ((v + 1))), none]) (⟨rfl, ⟨rfl, ⟨rfl, ⟨rfl, ⟨rfl, ⟨rfl, ⟨rfl, trivial⟩⟩⟩⟩⟩⟩⟩) ?_
                              exact ih89 (m) ((v + 1)) (D1) (by omega) (by first | assumption | exact (upA_ne (fun e => by have h5 := h0; rw [e] at h5; omega)).trans h0) (by first | assumption | exact (fun q a b => by have := hb q a b; unfold upA; split <;> omega)) (by first | assumption | exact hwn) (by first | assumption | omega) (by first | assumption | (rw [sumI_upd (by decide) hv.1, if_pos (by omega)]; omega)) (by first | (intro e; exact absurd e (by decide)) | exact (fun e u1 v1 a b d f g hT hE hD1 => (Classical.em (u1 = u ∧ v1 = v)).elim (fun q => by obtain ⟨rfl, rfl⟩ := q; omega) (fun q => hx e u1 v1 a b d f (by omega) hT hE hD1))) (by omega)
                            · skip
                              refine pw_iload r_12_farOf_116 rfl ?_
                              refine pw_if_le r_12_farOf_118 (fun h118 => ?_) (fun h118 => ?_)
                              · skip
                                refine pw_iinc (b := 0) (ls' := [some (vR 12 (0)), some (vI (c)), some (vI (p)), some (vI (m)), some (vI (u)), some (vI (t)), some (vI ((v + 1))), some (vI (gA G 202 (0) (((18 * u) + v))))]) r_12_farOf_160 rfl rfl (by omega) rfl ?_
                                refine pw_goto r_12_farOf_163 ?_
                                refine pw_weakL (ls' := [some (vR 12 (0)), some (vI (c)), some (vI (p)), some (vI (m)), some (vI (u)), some (vI (t)), some (vI ((v + 1))), none]) (⟨rfl, ⟨rfl, ⟨rfl, ⟨rfl, ⟨rfl, ⟨rfl, ⟨rfl, trivial⟩⟩⟩⟩⟩⟩⟩) ?_
                                exact ih89 (m) ((v + 1)) (D1) (by omega) (by first | assumption | exact (upA_ne (fun e => by have h5 := h0; rw [e] at h5; omega)).trans h0) (by first | assumption | exact (fun q a b => by have := hb q a b; unfold upA; split <;> omega)) (by first | assumption | exact hwn) (by first | assumption | omega) (by first | assumption | (rw [sumI_upd (by decide) hv.1, if_pos (by omega)]; omega)) (by first | (intro e; exact absurd e (by decide)) | exact (fun e u1 v1 a b d f g hT hE hD1 => (Classical.em (u1 = u ∧ v1 = v)).elim (fun q => by obtain ⟨rfl, rfl⟩ := q; omega) (fun q => hx e u1 v1 a b d f (by omega) hT hE hD1))) (by omega)
                              · skip
                                refine pw_aload r_12_farOf_121 rfl ?_
                                refine pw_getR r_12_farOf_122 fs_12_43 (by decide) ?_
                                refine pw_iload r_12_farOf_125 rfl ?_
                                refine pw_ialdv (v := (D1) (u)) r_12_farOf_127 sh234 (by omega) (by omega) (by first | rfl | simp [gF_sF, gF_sA, gF_uA, gF_sD, gA_sF, gA_sA, gA_uA, gA_sD, gD_sF, gD_sA, gD_uA, gD_sD]) ?_
                                refine pw_iload r_12_farOf_128 rfl ?_
                                refine pw_iadd r_12_farOf_130 (by omega) ?_
                                refine pw_aload r_12_farOf_131 rfl ?_
                                refine pw_getR r_12_farOf_132 fs_12_43 (by decide) ?_
                                refine pw_iload r_12_farOf_135 rfl ?_
                                refine pw_ialdv (v := (D1) (v)) r_12_farOf_137 sh234 (by omega) (by omega) (by first | rfl | simp [gF_sF, gF_sA, gF_uA, gF_sD, gA_sF, gA_sA, gA_uA, gA_sD, gD_sF, gD_sA, gD_uA, gD_sD]) ?_
                                refine pw_icmp_ge r_12_farOf_138 (fun h138 => ?_) (fun h138 => ?_)
                                · skip
                                  refine pw_iinc (b := 0) (ls' := [some (vR 12 (0)), some (vI (c)), some (vI (p)), some (vI (m)), some (vI (u)), some (vI (t)), some (vI ((v + 1))), some (vI (gA G 202 (0) (((18 * u) + v))))]) r_12_farOf_160 rfl rfl (by omega) rfl ?_
                                  refine pw_goto r_12_farOf_163 ?_
                                  refine pw_weakL (ls' := [some (vR 12 (0)), some (vI (c)), some (vI (p)), some (vI (m)), some (vI (u)), some (vI (t)), some (vI ((v + 1))), none]) (⟨rfl, ⟨rfl, ⟨rfl, ⟨rfl, ⟨rfl, ⟨rfl, ⟨rfl, trivial⟩⟩⟩⟩⟩⟩⟩) ?_
                                  exact ih89 (m) ((v + 1)) (D1) (by omega) (by first | assumption | exact (upA_ne (fun e => by have h5 := h0; rw [e] at h5; omega)).trans h0) (by first | assumption | exact (fun q a b => by have := hb q a b; unfold upA; split <;> omega)) (by first | assumption | exact hwn) (by first | assumption | omega) (by first | assumption | (rw [sumI_upd (by decide) hv.1, if_pos (by omega)]; omega)) (by first | (intro e; exact absurd e (by decide)) | exact (fun e u1 v1 a b d f g hT hE hD1 => (Classical.em (u1 = u ∧ v1 = v)).elim (fun q => by obtain ⟨rfl, rfl⟩ := q; omega) (fun q => hx e u1 v1 a b d f (by omega) hT hE hD1))) (by omega)
                                · skip
                                  have hwn : ∀ q, 0 ≤ q → q < 18 → upA D1 v (D1 u + (gA G 202 0 (18 * u + v))) q < 100000 → ∃ k, Wk (fun u v => (gA G 202 0 (18 * u + v))) (fun u => u = c ∨ 16 ≤ u ∨ (gA G 200 0 (u)) = (gA G 200 0 (c))) c k q (upA D1 v (D1 u + (gA G 202 0 (18 * u + v))) q) := by
                                    intro q a b hq
                                    by_cases e : q = v
                                    · subst e
                                      rw [upA_same] at hq ⊢
                                      obtain ⟨k, hk⟩ := hw u (by omega) (by omega) (by omega)
                                      exact ⟨k + 1, u, D1 u, by omega, by omega, hk, (by rcases ht with ⟨-, z⟩ | ⟨z, -⟩; exact z; omega), (by show 0 < (gA G 202 0 (18 * u + q)); omega), rfl⟩
                                    · rw [upA_ne e] at hq ⊢
                                      exact hw q a b hq
                                  refine pw_aload r_12_farOf_141 rfl ?_
                                  refine pw_getR r_12_farOf_142 fs_12_43 (by decide) ?_
                                  refine pw_iload r_12_farOf_145 rfl ?_
                                  refine pw_aload r_12_farOf_147 rfl ?_
                                  refine pw_getR r_12_farOf_148 fs_12_43 (by decide) ?_
                                  refine pw_iload r_12_farOf_151 rfl ?_
                                  refine pw_ialdv (v := (D1) (u)) r_12_farOf_153 sh234 (by omega) (by omega) (by first | rfl | simp [gF_sF, gF_sA, gF_uA, gF_sD, gA_sF, gA_sA, gA_uA, gA_sD, gD_sF, gD_sA, gD_uA, gD_sD]) ?_
                                  refine pw_iload r_12_farOf_154 rfl ?_
                                  refine pw_iadd r_12_farOf_156 (by omega) ?_
                                  refine pw_iast r_12_farOf_157 sh234 (by omega) (by omega) ?_
                                  refine pw_const r_12_farOf_158 ?_
                                  refine pw_istore (ls' := [some (vR 12 (0)), some (vI (c)), some (vI (p)), some (vI (1)), some (vI (u)), some (vI (t)), some (vI (v)), some (vI (gA G 202 (0) (((18 * u) + v))))]) r_12_farOf_159 rfl rfl ?_
                                  refine pw_iinc (b := 0) (ls' := [some (vR 12 (0)), some (vI (c)), some (vI (p)), some (vI (1)), some (vI (u)), some (vI (t)), some (vI ((v + 1))), some (vI (gA G 202 (0) (((18 * u) + v))))]) r_12_farOf_160 rfl rfl (by omega) rfl ?_
                                  refine pw_goto r_12_farOf_163 ?_
                                  refine pw_weakL (ls' := [some (vR 12 (0)), some (vI (c)), some (vI (p)), some (vI (1)), some (vI (u)), some (vI (t)), some (vI ((v + 1))), none]) (⟨rfl, ⟨rfl, ⟨rfl, ⟨rfl, ⟨rfl, ⟨rfl, ⟨rfl, trivial⟩⟩⟩⟩⟩⟩⟩) ?_
                                  refine pw_eqG (G' := uA G 234 (0) ((upA D1 v (((D1) (u)) + (gA G 202 (0) (((18 * u) + v))))))) (by first | rfl | (rw [uA_self]; done) | (rw [sA_uA]; done) | (rw [sA_eq]; done) | (simp (disch := decide) only [sA_uA, sA_uA_ne, uA_abs, uA_abs2, uA_uA]; done) | (simp (disch := decide) only [sA_eq, sA_uA, sA_uA_ne, uA_abs, uA_abs2, uA_uA]; done) | (refine PH_ext (fun _ _ _ => ?_) (fun _ _ _ => ?_) (fun _ _ _ => ?_) <;> simp only [gF_sF, gF_sA, gF_uA, gF_sD, gA_sF, gA_sA, gA_uA, gA_sD, gD_sF, gD_sA, gD_uA, gD_sD] <;> (repeat' split) <;> first | rfl | (exfalso; omega) | simp_all)) ?_
                                  exact ih89 (1) ((v + 1)) ((upA D1 v (((D1) (u)) + (gA G 202 (0) (((18 * u) + v)))))) (by omega) (by first | assumption | exact (upA_ne (fun e => by have h5 := h0; rw [e] at h5; omega)).trans h0) (by first | assumption | exact (fun q a b => by have := hb q a b; unfold upA; split <;> omega)) (by first | assumption | exact hwn) (by first | assumption | omega) (by first | assumption | (rw [sumI_upd (by decide) hv.1, if_pos (by omega)]; omega)) (by first | (intro e; exact absurd e (by decide)) | exact (fun e u1 v1 a b d f g hT hE hD1 => (Classical.em (u1 = u ∧ v1 = v)).elim (fun q => by obtain ⟨rfl, rfl⟩ := q; omega) (fun q => hx e u1 v1 a b d f (by omega) hT hE hD1))) (by omega)
                      exact L89 _ (m) (0) (D1) (by omega) (h0) (hb) (hw) (by first | assumption | omega) (hs) (fun e u1 v1 a b d f g => hx e u1 v1 a b d f (by omega)) (Nat.lt_succ_self _)
                    refine pw_iload r_12_farOf_50 rfl ?_
                    refine pw_iload r_12_farOf_52 rfl ?_
                    refine pw_icmp_eq r_12_farOf_53 (fun h53 => ?_) (fun h53 => ?_)
                    · skip
                      refine pw_const r_12_farOf_79 ?_
                      refine pw_goto r_12_farOf_80 ?_
                      exact L84 (1) (by first | assumption | omega) 
                    · skip
                      refine pw_iload r_12_farOf_56 rfl ?_
                      refine pw_const r_12_farOf_58 ?_
                      refine pw_icmp_ge r_12_farOf_60 (fun h60 => ?_) (fun h60 => ?_)
                      · skip
                        refine pw_const r_12_farOf_79 ?_
                        refine pw_goto r_12_farOf_80 ?_
                        exact L84 (1) (by first | assumption | omega) 
                      · skip
                        refine pw_aload r_12_farOf_63 rfl ?_
                        refine pw_getR r_12_farOf_64 fs_12_1 (by decide) ?_
                        refine pw_iload r_12_farOf_67 rfl ?_
                        refine pw_ialdv (v := gA G 200 (0) (u)) r_12_farOf_69 sh200 (by omega) (by omega) (by first | rfl | simp [gF_sF, gF_sA, gF_uA, gF_sD, gA_sF, gA_sA, gA_uA, gA_sD, gD_sF, gD_sA, gD_uA, gD_sD]) ?_
                        refine pw_aload r_12_farOf_70 rfl ?_
                        refine pw_getR r_12_farOf_71 fs_12_1 (by decide) ?_
                        refine pw_iload r_12_farOf_74 rfl ?_
                        refine pw_ialdv (v := gA G 200 (0) (c)) r_12_farOf_75 sh200 (by omega) (by omega) (by first | rfl | simp [gF_sF, gF_sA, gF_uA, gF_sD, gA_sF, gA_sA, gA_uA, gA_sD, gD_sF, gD_sA, gD_uA, gD_sD]) ?_
                        refine pw_icmp_ne r_12_farOf_76 (fun h76 => ?_) (fun h76 => ?_)
                        · skip
                          refine pw_const r_12_farOf_83 ?_
                          exact L84 (0) (by first | assumption | omega) 
                        · skip
                          refine pw_const r_12_farOf_79 ?_
                          refine pw_goto r_12_farOf_80 ?_
                          exact L84 (1) (by first | assumption | omega) 
              exact L43 _ (0) (0) (D) (by first | assumption | omega) (by first | assumption | omega) (by first | assumption | omega) (by first | assumption | omega) (by first | assumption | omega) (by first | assumption | omega) (fun e u1 v1 a b d f g => by omega) (Nat.lt_succ_self _)
        exact L34 _ (1) (D) (by first | assumption | omega) (by rw [hD c (by omega) (by omega), if_pos rfl]) (fun v a b => by rw [hD v a (by omega)]; split <;> omega) (fun v a b hv => by rw [hD v a (by omega)] at hv ⊢; by_cases e : v = c <;> first | (rw [if_pos e]; exact ⟨0, e, rfl⟩) | (rw [if_neg e] at hv; omega)) (fun e => by omega) (Nat.lt_succ_self _)
      · skip
        refine pw_aload r_12_farOf_8 rfl ?_
        refine pw_getR r_12_farOf_9 fs_12_43 (by decide) ?_
        refine pw_iload r_12_farOf_12 rfl ?_
        refine pw_iload r_12_farOf_13 rfl ?_
        refine pw_iload r_12_farOf_14 rfl ?_
        refine pw_icmp_ne r_12_farOf_15 (fun h15 => ?_) (fun h15 => ?_)
        · skip
          refine pw_const r_12_farOf_22 ?_
          refine pw_iast r_12_farOf_25 sh234 (by omega) (by omega) ?_
          refine pw_iinc (b := 0) (ls' := [some (vR 12 (0)), some (vI (c)), some (vI (p)), some (vI ((n + 1))), none, none, none, none]) r_12_farOf_26 rfl rfl (by omega) rfl ?_
          refine pw_goto r_12_farOf_29 ?_
          refine pw_eqG (G' := uA G 234 (0) ((upA D n 100000))) (by first | rfl | (rw [uA_self]; done) | (rw [sA_uA]; done) | (rw [sA_eq]; done) | (simp (disch := decide) only [sA_uA, sA_uA_ne, uA_abs, uA_abs2, uA_uA]; done) | (simp (disch := decide) only [sA_eq, sA_uA, sA_uA_ne, uA_abs, uA_abs2, uA_uA]; done) | (refine PH_ext (fun _ _ _ => ?_) (fun _ _ _ => ?_) (fun _ _ _ => ?_) <;> simp only [gF_sF, gF_sA, gF_uA, gF_sD, gA_sF, gA_sA, gA_uA, gA_sD, gD_sF, gD_sA, gD_uA, gD_sD] <;> (repeat' split) <;> first | rfl | (exfalso; omega) | simp_all)) ?_
          exact ih2 ((n + 1)) ((upA D n 100000)) (by first | assumption | omega) (all_s (fun v a b => (upA_ne (by omega)).trans (hD v a b)) ((upA_same _ _ _).trans (by first | exact (if_pos (by omega)).symm | exact (if_neg (by omega)).symm))) (by omega)
        · skip
          refine pw_const r_12_farOf_18 ?_
          refine pw_goto r_12_farOf_19 ?_
          refine pw_iast r_12_farOf_25 sh234 (by omega) (by omega) ?_
          refine pw_iinc (b := 0) (ls' := [some (vR 12 (0)), some (vI (c)), some (vI (p)), some (vI ((n + 1))), none, none, none, none]) r_12_farOf_26 rfl rfl (by omega) rfl ?_
          refine pw_goto r_12_farOf_29 ?_
          refine pw_eqG (G' := uA G 234 (0) ((upA D n 0))) (by first | rfl | (rw [uA_self]; done) | (rw [sA_uA]; done) | (rw [sA_eq]; done) | (simp (disch := decide) only [sA_uA, sA_uA_ne, uA_abs, uA_abs2, uA_uA]; done) | (simp (disch := decide) only [sA_eq, sA_uA, sA_uA_ne, uA_abs, uA_abs2, uA_uA]; done) | (refine PH_ext (fun _ _ _ => ?_) (fun _ _ _ => ?_) (fun _ _ _ => ?_) <;> simp only [gF_sF, gF_sA, gF_uA, gF_sD, gA_sF, gA_sA, gA_uA, gA_sD, gD_sF, gD_sA, gD_uA, gD_sD] <;> (repeat' split) <;> first | rfl | (exfalso; omega) | simp_all)) ?_
          exact ih2 ((n + 1)) ((upA D n 0)) (by first | assumption | omega) (all_s (fun v a b => (upA_ne (by omega)).trans (hD v a b)) ((upA_same _ _ _).trans (by first | exact (if_pos (by omega)).symm | exact (if_neg (by omega)).symm))) (by omega)
  refine pw_eqG (G' := uA G 234 (0) (gA G 234 0)) (by rw [uA_self]) ?_
  exact L2 _ (0) (gA G 234 0) (by first | assumption | omega) (fun v a b => by omega) (Nat.lt_succ_self _)
set_option maxRecDepth 10000 in
theorem sp_X12_far {l : Launch} {w : Wo} {d : Nat} {G : PH} {P : Option PV → PH → Prop} {c p : Int} (hc : 0 ≤ (gF G 12 0 3) ∧ (gF G 12 0 3) ≤ 16) (hr : ∀ k, 0 ≤ k → k < 324 → 0 ≤ (gA G 202 0 (k)) ∧ (gA G 202 0 (k)) ≤ 9) (h1 : ¬ ((0 ≤ c ∧ c < (gF G 12 0 3)) ∧ ((0 ≤ p ∧ p < (gF G 12 0 3)) ∨ p = 16 ∨ p = 17)) → P (some (vI (-1))) G) (h2 : (0 ≤ c ∧ c < (gF G 12 0 3)) → ((0 ≤ p ∧ p < (gF G 12 0 3)) ∨ p = 16 ∨ p = 17) → ∀ Dr, IsD (fun u v => (gA G 202 0 (18 * u + v))) (fun u => u = c ∨ 16 ≤ u ∨ (gA G 200 0 (u)) = (gA G 200 0 (c))) c 100000 Dr → ∀ r, (100000 ≤ Dr p ∧ r = -4) ∨ (Dr p < 100000 ∧ r = Dr p) → P (some (vI r)) (uA G 234 0 Dr)) : PW l w M_X12_far (d + 2) 0 [some (vR 12 (0)), some (vI (c)), some (vI (p)), none] [] G P := by
  refine pw_aload r_12_far_0 rfl ?_
  refine pw_iload r_12_far_1 rfl ?_
  refine pw_callV (av := [vI (c)]) (st := []) (ls0 := [some (vR 12 (0)), some (vI (c))]) r_12_far_2 rfl rfl rfl (Nat.le_refl _) ?_
  refine sp_X12_isCamp  ?_
  refine pw_if_eqB r_12_far_5 (fun h05 => ?_) (fun h05 => ?_)
  · skip
    refine pw_const r_12_far_16 ?_
    refine pw_iret r_12_far_17 rfl (Nat.le_refl _) ⟨rfl, ?_⟩
    exact h1 (by omega)
  · skip
    refine pw_aload r_12_far_8 rfl ?_
    refine pw_iload r_12_far_9 rfl ?_
    refine pw_callV (av := [vI (p)]) (st := []) (ls0 := [some (vR 12 (0)), some (vI (p))]) r_12_far_10 rfl rfl rfl (Nat.le_refl _) ?_
    refine sp_X12_isPoint  ?_
    refine pw_if_neB r_12_far_13 (fun h13 => ?_) (fun h13 => ?_)
    · skip
      refine pw_aload r_12_far_18 rfl ?_
      refine pw_iload r_12_far_19 rfl ?_
      refine pw_iload r_12_far_20 rfl ?_
      refine pw_callV (av := [vI (c), vI (p)]) (st := []) (ls0 := [some (vR 12 (0)), some (vI (c)), some (vI (p)), none, none, none, none, none]) r_12_far_21 rfl rfl rfl (Nat.le_refl _) ?_
      refine sp_X12_farOf (by first | assumption | exact hc | omega) (by first | assumption | exact hp | omega) (by first | assumption | exact hr | omega) ?_
      intro Dr hDr
      refine pw_istore (ls' := [some (vR 12 (0)), some (vI (c)), some (vI (p)), some (vI ((Dr p)))]) r_12_far_24 rfl rfl ?_
      refine pw_iload r_12_far_25 rfl ?_
      refine pw_const r_12_far_26 ?_
      refine pw_icmp_ge r_12_far_29 (fun h29 => ?_) (fun h29 => ?_)
      · skip
        refine pw_const r_12_far_36 ?_
        refine pw_iret r_12_far_38 rfl (Nat.le_refl _) ⟨rfl, ?_⟩
        exact h2 (by omega) (by omega) Dr hDr _ (by omega)
      · skip
        refine pw_iload r_12_far_32 rfl ?_
        refine pw_goto r_12_far_33 ?_
        refine pw_iret r_12_far_38 rfl (Nat.le_refl _) ⟨rfl, ?_⟩
        exact h2 (by omega) (by omega) Dr hDr _ (by omega)
    · skip
      refine pw_const r_12_far_16 ?_
      refine pw_iret r_12_far_17 rfl (Nat.le_refl _) ⟨rfl, ?_⟩
      exact h1 (by omega)
set_option maxRecDepth 10000 in
theorem sp_X12_camp {l : Launch} {w : Wo} {d : Nat} {G : PH} {P : Option PV → PH → Prop} {s n : Int} (hc : 0 ≤ (gF G 12 0 3) ∧ (gF G 12 0 3) ≤ 16) (h1 : ¬ ((0 ≤ s ∧ s ≤ 1) ∧ 1 ≤ n ∧ n ≤ 99) → P (some (vI (-1))) G) (h2 : (0 ≤ s ∧ s ≤ 1) → 1 ≤ n ∧ n ≤ 99 → (gF G 12 0 3) = 16 → P (some (vI (-2))) G) (h3 : (0 ≤ s ∧ s ≤ 1) → 1 ≤ n ∧ n ≤ 99 → (gF G 12 0 3) < 16 → P (some (vI (gF G 12 0 3))) (sF (sA (sA G 200 0 (gF G 12 0 3) s) 201 0 (gF G 12 0 3) n) 12 0 3 ((gF G 12 0 3) + 1))) : PW l w M_X12_camp (d + 2) 0 [some (vR 12 (0)), some (vI (s)), some (vI (n))] [] G P := by
  refine pw_iload r_12_camp_0 rfl ?_
  refine pw_callS (av := [vI (s)]) (st := []) (ls0 := [some (vI (s))]) r_12_camp_1 rfl rfl rfl (Nat.le_refl _) ?_
  refine sp_X12_isSide  ?_
  refine pw_if_eqB r_12_camp_4 (fun h04 => ?_) (fun h04 => ?_)
  · skip
    refine pw_const r_12_camp_17 ?_
    refine pw_iret r_12_camp_18 rfl (Nat.le_refl _) ⟨rfl, ?_⟩
    first | exact h1 (by omega) | exact h2 (by omega) (by omega) (by omega) | exact pe (h3 (by omega) (by omega) (by omega)) (by omega)
  · skip
    refine pw_iload r_12_camp_7 rfl ?_
    refine pw_const r_12_camp_8 ?_
    refine pw_const r_12_camp_9 ?_
    refine pw_callS (av := [vI (n), vI (1), vI (99)]) (st := []) (ls0 := [some (vI (n)), some (vI (1)), some (vI (99))]) r_12_camp_11 rfl rfl rfl (Nat.le_refl _) ?_
    refine sp_X12_within  ?_
    refine pw_if_neB r_12_camp_14 (fun h14 => ?_) (fun h14 => ?_)
    · skip
      refine pw_aload r_12_camp_19 rfl ?_
      refine pw_getI r_12_camp_20 fs_12_3 (by decide) ?_
      refine pw_const r_12_camp_23 ?_
      refine pw_icmp_ne r_12_camp_25 (fun h25 => ?_) (fun h25 => ?_)
      · skip
        refine pw_aload r_12_camp_31 rfl ?_
        refine pw_getR r_12_camp_32 fs_12_1 (by decide) ?_
        refine pw_aload r_12_camp_35 rfl ?_
        refine pw_getI r_12_camp_36 fs_12_3 (by decide) ?_
        refine pw_iload r_12_camp_39 rfl ?_
        refine pw_iast r_12_camp_40 sh200 (by omega) (by omega) ?_
        refine pw_aload r_12_camp_41 rfl ?_
        refine pw_getR r_12_camp_42 fs_12_2 (by decide) ?_
        refine pw_aload r_12_camp_45 rfl ?_
        refine pw_getIv (v := gF G 12 (0) 3) r_12_camp_46 fs_12_3 (by decide) (by first | rfl | simp [gF_sF, gF_sA, gF_uA, gF_sD, gA_sF, gA_sA, gA_uA, gA_sD, gD_sF, gD_sA, gD_uA, gD_sD]) ?_
        refine pw_iload r_12_camp_49 rfl ?_
        refine pw_iast r_12_camp_50 sh201 (by omega) (by omega) ?_
        refine pw_aload r_12_camp_51 rfl ?_
        refine pw_dup r_12_camp_52 rfl ?_
        refine pw_getIv (v := gF G 12 (0) 3) r_12_camp_53 fs_12_3 (by decide) (by first | rfl | simp [gF_sF, gF_sA, gF_uA, gF_sD, gA_sF, gA_sA, gA_uA, gA_sD, gD_sF, gD_sA, gD_uA, gD_sD]) ?_
        refine pw_const r_12_camp_56 ?_
        refine pw_iadd r_12_camp_57 (by omega) ?_
        refine pw_putI r_12_camp_58 (by decide +kernel) fs_12_3 (by decide) ?_
        refine pw_aload r_12_camp_61 rfl ?_
        refine pw_getIv (v := ((gF G 12 (0) 3) + 1)) r_12_camp_62 fs_12_3 (by decide) (by first | rfl | simp [gF_sF, gF_sA, gF_uA, gF_sD, gA_sF, gA_sA, gA_uA, gA_sD, gD_sF, gD_sA, gD_uA, gD_sD]) ?_
        refine pw_const r_12_camp_65 ?_
        refine pw_isub r_12_camp_66 (by omega) ?_
        refine pw_iret r_12_camp_67 rfl (Nat.le_refl _) ⟨rfl, ?_⟩
        first | exact h1 (by omega) | exact h2 (by omega) (by omega) (by omega) | exact pe (h3 (by omega) (by omega) (by omega)) (by omega)
      · skip
        refine pw_const r_12_camp_28 ?_
        refine pw_iret r_12_camp_30 rfl (Nat.le_refl _) ⟨rfl, ?_⟩
        first | exact h1 (by omega) | exact h2 (by omega) (by omega) (by omega) | exact pe (h3 (by omega) (by omega) (by omega)) (by omega)
    · skip
      refine pw_const r_12_camp_17 ?_
      refine pw_iret r_12_camp_18 rfl (Nat.le_refl _) ⟨rfl, ?_⟩
      first | exact h1 (by omega) | exact h2 (by omega) (by omega) (by omega) | exact pe (h3 (by omega) (by omega) (by omega)) (by omega)
set_option maxRecDepth 10000 in
theorem sp_X12_road {l : Launch} {w : Wo} {d : Nat} {G : PH} {P : Option PV → PH → Prop} {a b n : Int} (hc : 0 ≤ (gF G 12 0 3) ∧ (gF G 12 0 3) ≤ 16) (hr : ∀ k, 0 ≤ k → k < 324 → 0 ≤ (gA G 202 0 (k)) ∧ (gA G 202 0 (k)) ≤ 9) (h1 : ¬ ((((0 ≤ a ∧ a < (gF G 12 0 3)) ∨ a = 16 ∨ a = 17) ∧ ((0 ≤ b ∧ b < (gF G 12 0 3)) ∨ b = 16 ∨ b = 17)) ∧ (a ≠ b ∧ 1 ≤ n ∧ n ≤ 9) ∧ (a < 16 → b < 16 → (gA G 200 0 (a)) = (gA G 200 0 (b)))) → P (some (vI (-1))) G) (h2 : (((0 ≤ a ∧ a < (gF G 12 0 3)) ∨ a = 16 ∨ a = 17) ∧ ((0 ≤ b ∧ b < (gF G 12 0 3)) ∨ b = 16 ∨ b = 17)) → (a ≠ b ∧ 1 ≤ n ∧ n ≤ 9) → (a < 16 → b < 16 → (gA G 200 0 (a)) = (gA G 200 0 (b))) → ∀ m, (((gA G 202 0 (18 * a + b)) = 0 ∧ m = n) ∨ (0 < (gA G 202 0 (18 * a + b)) ∧ m = min (gA G 202 0 (18 * a + b)) n)) → P (some (vI m)) (sA (sA G 202 0 (18 * a + b) m) 202 0 (18 * b + a) m)) : PW l w M_X12_road (d + 2) 0 [some (vR 12 (0)), some (vI (a)), some (vI (b)), some (vI (n)), none, none] [] G P := by
  refine pw_aload r_12_road_0 rfl ?_
  refine pw_iload r_12_road_1 rfl ?_
  refine pw_callV (av := [vI (a)]) (st := []) (ls0 := [some (vR 12 (0)), some (vI (a))]) r_12_road_2 rfl rfl rfl (Nat.le_refl _) ?_
  refine sp_X12_isPoint  ?_
  refine pw_if_eqB r_12_road_5 (fun h05 => ?_) (fun h05 => ?_)
  · skip
    refine pw_const r_12_road_58 ?_
    refine pw_iret r_12_road_59 rfl (Nat.le_refl _) ⟨rfl, ?_⟩
    first | exact h1 (fun q => by first | omega | exact absurd (q.2.2 (by omega) (by omega)) (by assumption)) | exact h2 ⟨by omega, by omega⟩ ⟨by omega, by omega, by omega⟩ (fun _ _ => by first | assumption | omega) _ (by first | exact Or.inl ⟨by omega, rfl⟩ | exact Or.inr ⟨by omega, by omega⟩)
  · skip
    refine pw_aload r_12_road_8 rfl ?_
    refine pw_iload r_12_road_9 rfl ?_
    refine pw_callV (av := [vI (b)]) (st := []) (ls0 := [some (vR 12 (0)), some (vI (b))]) r_12_road_10 rfl rfl rfl (Nat.le_refl _) ?_
    refine sp_X12_isPoint  ?_
    refine pw_if_eqB r_12_road_13 (fun h13 => ?_) (fun h13 => ?_)
    · skip
      refine pw_const r_12_road_58 ?_
      refine pw_iret r_12_road_59 rfl (Nat.le_refl _) ⟨rfl, ?_⟩
      first | exact h1 (fun q => by first | omega | exact absurd (q.2.2 (by omega) (by omega)) (by assumption)) | exact h2 ⟨by omega, by omega⟩ ⟨by omega, by omega, by omega⟩ (fun _ _ => by first | assumption | omega) _ (by first | exact Or.inl ⟨by omega, rfl⟩ | exact Or.inr ⟨by omega, by omega⟩)
    · skip
      refine pw_iload r_12_road_16 rfl ?_
      refine pw_iload r_12_road_17 rfl ?_
      refine pw_icmp_eq r_12_road_18 (fun h18 => ?_) (fun h18 => ?_)
      · skip
        refine pw_const r_12_road_58 ?_
        refine pw_iret r_12_road_59 rfl (Nat.le_refl _) ⟨rfl, ?_⟩
        first | exact h1 (fun q => by first | omega | exact absurd (q.2.2 (by omega) (by omega)) (by assumption)) | exact h2 ⟨by omega, by omega⟩ ⟨by omega, by omega, by omega⟩ (fun _ _ => by first | assumption | omega) _ (by first | exact Or.inl ⟨by omega, rfl⟩ | exact Or.inr ⟨by omega, by omega⟩)
      · skip
        refine pw_iload r_12_road_21 rfl ?_
        refine pw_const r_12_road_22 ?_
        refine pw_const r_12_road_23 ?_
        refine pw_callS (av := [vI (n), vI (1), vI (9)]) (st := []) (ls0 := [some (vI (n)), some (vI (1)), some (vI (9))]) r_12_road_25 rfl rfl rfl (Nat.le_refl _) ?_
        refine sp_X12_within  ?_
        refine pw_if_eqB r_12_road_28 (fun h28 => ?_) (fun h28 => ?_)
        · skip
          refine pw_const r_12_road_58 ?_
          refine pw_iret r_12_road_59 rfl (Nat.le_refl _) ⟨rfl, ?_⟩
          first | exact h1 (fun q => by first | omega | exact absurd (q.2.2 (by omega) (by omega)) (by assumption)) | exact h2 ⟨by omega, by omega⟩ ⟨by omega, by omega, by omega⟩ (fun _ _ => by first | assumption | omega) _ (by first | exact Or.inl ⟨by omega, rfl⟩ | exact Or.inr ⟨by omega, by omega⟩)
        · skip
          refine pw_iload r_12_road_31 rfl ?_
          refine pw_const r_12_road_32 ?_
          refine pw_icmp_ge r_12_road_34 (fun h34 => ?_) (fun h34 => ?_)
          · skip
            have hr1 := hr (18 * a + b) (by omega) (by omega)
            refine pw_aload r_12_road_60 rfl ?_
            refine pw_getR r_12_road_61 fs_12_4 (by decide) ?_
            refine pw_const r_12_road_64 ?_
            refine pw_iload r_12_road_66 rfl ?_
            refine pw_imul r_12_road_67 (by omega) ?_
            refine pw_iload r_12_road_68 rfl ?_
            refine pw_iadd r_12_road_69 (by omega) ?_
            refine pw_iald r_12_road_70 sh202 (by omega) (by omega) ?_
            refine pw_istore (ls' := [some (vR 12 (0)), some (vI (a)), some (vI (b)), some (vI (n)), some (vI (gA G 202 (0) (((18 * a) + b)))), none]) r_12_road_71 rfl rfl ?_
            refine pw_iload r_12_road_73 rfl ?_
            refine pw_if_le r_12_road_75 (fun h75 => ?_) (fun h75 => ?_)
            · skip
              refine pw_iload r_12_road_89 rfl ?_
              refine pw_istore (ls' := [some (vR 12 (0)), some (vI (a)), some (vI (b)), some (vI (n)), some (vI (gA G 202 (0) (((18 * a) + b)))), some (vI (n))]) r_12_road_90 rfl rfl ?_
              refine pw_aload r_12_road_92 rfl ?_
              refine pw_getR r_12_road_93 fs_12_4 (by decide) ?_
              refine pw_const r_12_road_96 ?_
              refine pw_iload r_12_road_98 rfl ?_
              refine pw_imul r_12_road_99 (by omega) ?_
              refine pw_iload r_12_road_100 rfl ?_
              refine pw_iadd r_12_road_101 (by omega) ?_
              refine pw_iload r_12_road_102 rfl ?_
              refine pw_iast r_12_road_104 sh202 (by omega) (by omega) ?_
              refine pw_aload r_12_road_105 rfl ?_
              refine pw_getR r_12_road_106 fs_12_4 (by decide) ?_
              refine pw_const r_12_road_109 ?_
              refine pw_iload r_12_road_111 rfl ?_
              refine pw_imul r_12_road_112 (by omega) ?_
              refine pw_iload r_12_road_113 rfl ?_
              refine pw_iadd r_12_road_114 (by omega) ?_
              refine pw_iload r_12_road_115 rfl ?_
              refine pw_iast r_12_road_117 sh202 (by omega) (by omega) ?_
              refine pw_iload r_12_road_118 rfl ?_
              refine pw_iret r_12_road_120 rfl (Nat.le_refl _) ⟨rfl, ?_⟩
              first | exact h1 (fun q => by first | omega | exact absurd (q.2.2 (by omega) (by omega)) (by assumption)) | exact h2 ⟨by omega, by omega⟩ ⟨by omega, by omega, by omega⟩ (fun _ _ => by first | assumption | omega) _ (by first | exact Or.inl ⟨by omega, rfl⟩ | exact Or.inr ⟨by omega, by omega⟩)
            · skip
              refine pw_iload r_12_road_78 rfl ?_
              refine pw_iload r_12_road_80 rfl ?_
              refine pw_icmp_ge r_12_road_81 (fun h81 => ?_) (fun h81 => ?_)
              · skip
                refine pw_iload r_12_road_89 rfl ?_
                refine pw_istore (ls' := [some (vR 12 (0)), some (vI (a)), some (vI (b)), some (vI (n)), some (vI (gA G 202 (0) (((18 * a) + b)))), some (vI (n))]) r_12_road_90 rfl rfl ?_
                refine pw_aload r_12_road_92 rfl ?_
                refine pw_getR r_12_road_93 fs_12_4 (by decide) ?_
                refine pw_const r_12_road_96 ?_
                refine pw_iload r_12_road_98 rfl ?_
                refine pw_imul r_12_road_99 (by omega) ?_
                refine pw_iload r_12_road_100 rfl ?_
                refine pw_iadd r_12_road_101 (by omega) ?_
                refine pw_iload r_12_road_102 rfl ?_
                refine pw_iast r_12_road_104 sh202 (by omega) (by omega) ?_
                refine pw_aload r_12_road_105 rfl ?_
                refine pw_getR r_12_road_106 fs_12_4 (by decide) ?_
                refine pw_const r_12_road_109 ?_
                refine pw_iload r_12_road_111 rfl ?_
                refine pw_imul r_12_road_112 (by omega) ?_
                refine pw_iload r_12_road_113 rfl ?_
                refine pw_iadd r_12_road_114 (by omega) ?_
                refine pw_iload r_12_road_115 rfl ?_
                refine pw_iast r_12_road_117 sh202 (by omega) (by omega) ?_
                refine pw_iload r_12_road_118 rfl ?_
                refine pw_iret r_12_road_120 rfl (Nat.le_refl _) ⟨rfl, ?_⟩
                first | exact h1 (fun q => by first | omega | exact absurd (q.2.2 (by omega) (by omega)) (by assumption)) | exact h2 ⟨by omega, by omega⟩ ⟨by omega, by omega, by omega⟩ (fun _ _ => by first | assumption | omega) _ (by first | exact Or.inl ⟨by omega, rfl⟩ | exact Or.inr ⟨by omega, by omega⟩)
              · skip
                refine pw_iload r_12_road_84 rfl ?_
                refine pw_goto r_12_road_86 ?_
                refine pw_istore (ls' := [some (vR 12 (0)), some (vI (a)), some (vI (b)), some (vI (n)), some (vI (gA G 202 (0) (((18 * a) + b)))), some (vI (gA G 202 (0) (((18 * a) + b))))]) r_12_road_90 rfl rfl ?_
                refine pw_aload r_12_road_92 rfl ?_
                refine pw_getR r_12_road_93 fs_12_4 (by decide) ?_
                refine pw_const r_12_road_96 ?_
                refine pw_iload r_12_road_98 rfl ?_
                refine pw_imul r_12_road_99 (by omega) ?_
                refine pw_iload r_12_road_100 rfl ?_
                refine pw_iadd r_12_road_101 (by omega) ?_
                refine pw_iload r_12_road_102 rfl ?_
                refine pw_iast r_12_road_104 sh202 (by omega) (by omega) ?_
                refine pw_aload r_12_road_105 rfl ?_
                refine pw_getR r_12_road_106 fs_12_4 (by decide) ?_
                refine pw_const r_12_road_109 ?_
                refine pw_iload r_12_road_111 rfl ?_
                refine pw_imul r_12_road_112 (by omega) ?_
                refine pw_iload r_12_road_113 rfl ?_
                refine pw_iadd r_12_road_114 (by omega) ?_
                refine pw_iload r_12_road_115 rfl ?_
                refine pw_iast r_12_road_117 sh202 (by omega) (by omega) ?_
                refine pw_iload r_12_road_118 rfl ?_
                refine pw_iret r_12_road_120 rfl (Nat.le_refl _) ⟨rfl, ?_⟩
                first | exact h1 (fun q => by first | omega | exact absurd (q.2.2 (by omega) (by omega)) (by assumption)) | exact h2 ⟨by omega, by omega⟩ ⟨by omega, by omega, by omega⟩ (fun _ _ => by first | assumption | omega) _ (by first | exact Or.inl ⟨by omega, rfl⟩ | exact Or.inr ⟨by omega, by omega⟩)
          · skip
            refine pw_iload r_12_road_37 rfl ?_
            refine pw_const r_12_road_38 ?_
            refine pw_icmp_ge r_12_road_40 (fun h40 => ?_) (fun h40 => ?_)
            · skip
              have hr1 := hr (18 * a + b) (by omega) (by omega)
              refine pw_aload r_12_road_60 rfl ?_
              refine pw_getR r_12_road_61 fs_12_4 (by decide) ?_
              refine pw_const r_12_road_64 ?_
              refine pw_iload r_12_road_66 rfl ?_
              refine pw_imul r_12_road_67 (by omega) ?_
              refine pw_iload r_12_road_68 rfl ?_
              refine pw_iadd r_12_road_69 (by omega) ?_
              refine pw_iald r_12_road_70 sh202 (by omega) (by omega) ?_
              refine pw_istore (ls' := [some (vR 12 (0)), some (vI (a)), some (vI (b)), some (vI (n)), some (vI (gA G 202 (0) (((18 * a) + b)))), none]) r_12_road_71 rfl rfl ?_
              refine pw_iload r_12_road_73 rfl ?_
              refine pw_if_le r_12_road_75 (fun h75 => ?_) (fun h75 => ?_)
              · skip
                refine pw_iload r_12_road_89 rfl ?_
                refine pw_istore (ls' := [some (vR 12 (0)), some (vI (a)), some (vI (b)), some (vI (n)), some (vI (gA G 202 (0) (((18 * a) + b)))), some (vI (n))]) r_12_road_90 rfl rfl ?_
                refine pw_aload r_12_road_92 rfl ?_
                refine pw_getR r_12_road_93 fs_12_4 (by decide) ?_
                refine pw_const r_12_road_96 ?_
                refine pw_iload r_12_road_98 rfl ?_
                refine pw_imul r_12_road_99 (by omega) ?_
                refine pw_iload r_12_road_100 rfl ?_
                refine pw_iadd r_12_road_101 (by omega) ?_
                refine pw_iload r_12_road_102 rfl ?_
                refine pw_iast r_12_road_104 sh202 (by omega) (by omega) ?_
                refine pw_aload r_12_road_105 rfl ?_
                refine pw_getR r_12_road_106 fs_12_4 (by decide) ?_
                refine pw_const r_12_road_109 ?_
                refine pw_iload r_12_road_111 rfl ?_
                refine pw_imul r_12_road_112 (by omega) ?_
                refine pw_iload r_12_road_113 rfl ?_
                refine pw_iadd r_12_road_114 (by omega) ?_
                refine pw_iload r_12_road_115 rfl ?_
                refine pw_iast r_12_road_117 sh202 (by omega) (by omega) ?_
                refine pw_iload r_12_road_118 rfl ?_
                refine pw_iret r_12_road_120 rfl (Nat.le_refl _) ⟨rfl, ?_⟩
                first | exact h1 (fun q => by first | omega | exact absurd (q.2.2 (by omega) (by omega)) (by assumption)) | exact h2 ⟨by omega, by omega⟩ ⟨by omega, by omega, by omega⟩ (fun _ _ => by first | assumption | omega) _ (by first | exact Or.inl ⟨by omega, rfl⟩ | exact Or.inr ⟨by omega, by omega⟩)
              · skip
                refine pw_iload r_12_road_78 rfl ?_
                refine pw_iload r_12_road_80 rfl ?_
                refine pw_icmp_ge r_12_road_81 (fun h81 => ?_) (fun h81 => ?_)
                · skip
                  refine pw_iload r_12_road_89 rfl ?_
                  refine pw_istore (ls' := [some (vR 12 (0)), some (vI (a)), some (vI (b)), some (vI (n)), some (vI (gA G 202 (0) (((18 * a) + b)))), some (vI (n))]) r_12_road_90 rfl rfl ?_
                  refine pw_aload r_12_road_92 rfl ?_
                  refine pw_getR r_12_road_93 fs_12_4 (by decide) ?_
                  refine pw_const r_12_road_96 ?_
                  refine pw_iload r_12_road_98 rfl ?_
                  refine pw_imul r_12_road_99 (by omega) ?_
                  refine pw_iload r_12_road_100 rfl ?_
                  refine pw_iadd r_12_road_101 (by omega) ?_
                  refine pw_iload r_12_road_102 rfl ?_
                  refine pw_iast r_12_road_104 sh202 (by omega) (by omega) ?_
                  refine pw_aload r_12_road_105 rfl ?_
                  refine pw_getR r_12_road_106 fs_12_4 (by decide) ?_
                  refine pw_const r_12_road_109 ?_
                  refine pw_iload r_12_road_111 rfl ?_
                  refine pw_imul r_12_road_112 (by omega) ?_
                  refine pw_iload r_12_road_113 rfl ?_
                  refine pw_iadd r_12_road_114 (by omega) ?_
                  refine pw_iload r_12_road_115 rfl ?_
                  refine pw_iast r_12_road_117 sh202 (by omega) (by omega) ?_
                  refine pw_iload r_12_road_118 rfl ?_
                  refine pw_iret r_12_road_120 rfl (Nat.le_refl _) ⟨rfl, ?_⟩
                  first | exact h1 (fun q => by first | omega | exact absurd (q.2.2 (by omega) (by omega)) (by assumption)) | exact h2 ⟨by omega, by omega⟩ ⟨by omega, by omega, by omega⟩ (fun _ _ => by first | assumption | omega) _ (by first | exact Or.inl ⟨by omega, rfl⟩ | exact Or.inr ⟨by omega, by omega⟩)
                · skip
                  refine pw_iload r_12_road_84 rfl ?_
                  refine pw_goto r_12_road_86 ?_
                  refine pw_istore (ls' := [some (vR 12 (0)), some (vI (a)), some (vI (b)), some (vI (n)), some (vI (gA G 202 (0) (((18 * a) + b)))), some (vI (gA G 202 (0) (((18 * a) + b))))]) r_12_road_90 rfl rfl ?_
                  refine pw_aload r_12_road_92 rfl ?_
                  refine pw_getR r_12_road_93 fs_12_4 (by decide) ?_
                  refine pw_const r_12_road_96 ?_
                  refine pw_iload r_12_road_98 rfl ?_
                  refine pw_imul r_12_road_99 (by omega) ?_
                  refine pw_iload r_12_road_100 rfl ?_
                  refine pw_iadd r_12_road_101 (by omega) ?_
                  refine pw_iload r_12_road_102 rfl ?_
                  refine pw_iast r_12_road_104 sh202 (by omega) (by omega) ?_
                  refine pw_aload r_12_road_105 rfl ?_
                  refine pw_getR r_12_road_106 fs_12_4 (by decide) ?_
                  refine pw_const r_12_road_109 ?_
                  refine pw_iload r_12_road_111 rfl ?_
                  refine pw_imul r_12_road_112 (by omega) ?_
                  refine pw_iload r_12_road_113 rfl ?_
                  refine pw_iadd r_12_road_114 (by omega) ?_
                  refine pw_iload r_12_road_115 rfl ?_
                  refine pw_iast r_12_road_117 sh202 (by omega) (by omega) ?_
                  refine pw_iload r_12_road_118 rfl ?_
                  refine pw_iret r_12_road_120 rfl (Nat.le_refl _) ⟨rfl, ?_⟩
                  first | exact h1 (fun q => by first | omega | exact absurd (q.2.2 (by omega) (by omega)) (by assumption)) | exact h2 ⟨by omega, by omega⟩ ⟨by omega, by omega, by omega⟩ (fun _ _ => by first | assumption | omega) _ (by first | exact Or.inl ⟨by omega, rfl⟩ | exact Or.inr ⟨by omega, by omega⟩)
            · skip
              refine pw_aload r_12_road_43 rfl ?_
              refine pw_getR r_12_road_44 fs_12_1 (by decide) ?_
              refine pw_iload r_12_road_47 rfl ?_
              refine pw_iald r_12_road_48 sh200 (by omega) (by omega) ?_
              refine pw_aload r_12_road_49 rfl ?_
              refine pw_getR r_12_road_50 fs_12_1 (by decide) ?_
              refine pw_iload r_12_road_53 rfl ?_
              refine pw_iald r_12_road_54 sh200 (by omega) (by omega) ?_
              refine pw_icmp_eq r_12_road_55 (fun h55 => ?_) (fun h55 => ?_)
              · skip
                have hr1 := hr (18 * a + b) (by omega) (by omega)
                refine pw_aload r_12_road_60 rfl ?_
                refine pw_getR r_12_road_61 fs_12_4 (by decide) ?_
                refine pw_const r_12_road_64 ?_
                refine pw_iload r_12_road_66 rfl ?_
                refine pw_imul r_12_road_67 (by omega) ?_
                refine pw_iload r_12_road_68 rfl ?_
                refine pw_iadd r_12_road_69 (by omega) ?_
                refine pw_iald r_12_road_70 sh202 (by omega) (by omega) ?_
                refine pw_istore (ls' := [some (vR 12 (0)), some (vI (a)), some (vI (b)), some (vI (n)), some (vI (gA G 202 (0) (((18 * a) + b)))), none]) r_12_road_71 rfl rfl ?_
                refine pw_iload r_12_road_73 rfl ?_
                refine pw_if_le r_12_road_75 (fun h75 => ?_) (fun h75 => ?_)
                · skip
                  refine pw_iload r_12_road_89 rfl ?_
                  refine pw_istore (ls' := [some (vR 12 (0)), some (vI (a)), some (vI (b)), some (vI (n)), some (vI (gA G 202 (0) (((18 * a) + b)))), some (vI (n))]) r_12_road_90 rfl rfl ?_
                  refine pw_aload r_12_road_92 rfl ?_
                  refine pw_getR r_12_road_93 fs_12_4 (by decide) ?_
                  refine pw_const r_12_road_96 ?_
                  refine pw_iload r_12_road_98 rfl ?_
                  refine pw_imul r_12_road_99 (by omega) ?_
                  refine pw_iload r_12_road_100 rfl ?_
                  refine pw_iadd r_12_road_101 (by omega) ?_
                  refine pw_iload r_12_road_102 rfl ?_
                  refine pw_iast r_12_road_104 sh202 (by omega) (by omega) ?_
                  refine pw_aload r_12_road_105 rfl ?_
                  refine pw_getR r_12_road_106 fs_12_4 (by decide) ?_
                  refine pw_const r_12_road_109 ?_
                  refine pw_iload r_12_road_111 rfl ?_
                  refine pw_imul r_12_road_112 (by omega) ?_
                  refine pw_iload r_12_road_113 rfl ?_
                  refine pw_iadd r_12_road_114 (by omega) ?_
                  refine pw_iload r_12_road_115 rfl ?_
                  refine pw_iast r_12_road_117 sh202 (by omega) (by omega) ?_
                  refine pw_iload r_12_road_118 rfl ?_
                  refine pw_iret r_12_road_120 rfl (Nat.le_refl _) ⟨rfl, ?_⟩
                  first | exact h1 (fun q => by first | omega | exact absurd (q.2.2 (by omega) (by omega)) (by assumption)) | exact h2 ⟨by omega, by omega⟩ ⟨by omega, by omega, by omega⟩ (fun _ _ => by first | assumption | omega) _ (by first | exact Or.inl ⟨by omega, rfl⟩ | exact Or.inr ⟨by omega, by omega⟩)
                · skip
                  refine pw_iload r_12_road_78 rfl ?_
                  refine pw_iload r_12_road_80 rfl ?_
                  refine pw_icmp_ge r_12_road_81 (fun h81 => ?_) (fun h81 => ?_)
                  · skip
                    refine pw_iload r_12_road_89 rfl ?_
                    refine pw_istore (ls' := [some (vR 12 (0)), some (vI (a)), some (vI (b)), some (vI (n)), some (vI (gA G 202 (0) (((18 * a) + b)))), some (vI (n))]) r_12_road_90 rfl rfl ?_
                    refine pw_aload r_12_road_92 rfl ?_
                    refine pw_getR r_12_road_93 fs_12_4 (by decide) ?_
                    refine pw_const r_12_road_96 ?_
                    refine pw_iload r_12_road_98 rfl ?_
                    refine pw_imul r_12_road_99 (by omega) ?_
                    refine pw_iload r_12_road_100 rfl ?_
                    refine pw_iadd r_12_road_101 (by omega) ?_
                    refine pw_iload r_12_road_102 rfl ?_
                    refine pw_iast r_12_road_104 sh202 (by omega) (by omega) ?_
                    refine pw_aload r_12_road_105 rfl ?_
                    refine pw_getR r_12_road_106 fs_12_4 (by decide) ?_
                    refine pw_const r_12_road_109 ?_
                    refine pw_iload r_12_road_111 rfl ?_
                    refine pw_imul r_12_road_112 (by omega) ?_
                    refine pw_iload r_12_road_113 rfl ?_
                    refine pw_iadd r_12_road_114 (by omega) ?_
                    refine pw_iload r_12_road_115 rfl ?_
                    refine pw_iast r_12_road_117 sh202 (by omega) (by omega) ?_
                    refine pw_iload r_12_road_118 rfl ?_
                    refine pw_iret r_12_road_120 rfl (Nat.le_refl _) ⟨rfl, ?_⟩
                    first | exact h1 (fun q => by first | omega | exact absurd (q.2.2 (by omega) (by omega)) (by assumption)) | exact h2 ⟨by omega, by omega⟩ ⟨by omega, by omega, by omega⟩ (fun _ _ => by first | assumption | omega) _ (by first | exact Or.inl ⟨by omega, rfl⟩ | exact Or.inr ⟨by omega, by omega⟩)
                  · skip
                    refine pw_iload r_12_road_84 rfl ?_
                    refine pw_goto r_12_road_86 ?_
                    refine pw_istore (ls' := [some (vR 12 (0)), some (vI (a)), some (vI (b)), some (vI (n)), some (vI (gA G 202 (0) (((18 * a) + b)))), some (vI (gA G 202 (0) (((18 * a) + b))))]) r_12_road_90 rfl rfl ?_
                    refine pw_aload r_12_road_92 rfl ?_
                    refine pw_getR r_12_road_93 fs_12_4 (by decide) ?_
                    refine pw_const r_12_road_96 ?_
                    refine pw_iload r_12_road_98 rfl ?_
                    refine pw_imul r_12_road_99 (by omega) ?_
                    refine pw_iload r_12_road_100 rfl ?_
                    refine pw_iadd r_12_road_101 (by omega) ?_
                    refine pw_iload r_12_road_102 rfl ?_
                    refine pw_iast r_12_road_104 sh202 (by omega) (by omega) ?_
                    refine pw_aload r_12_road_105 rfl ?_
                    refine pw_getR r_12_road_106 fs_12_4 (by decide) ?_
                    refine pw_const r_12_road_109 ?_
                    refine pw_iload r_12_road_111 rfl ?_
                    refine pw_imul r_12_road_112 (by omega) ?_
                    refine pw_iload r_12_road_113 rfl ?_
                    refine pw_iadd r_12_road_114 (by omega) ?_
                    refine pw_iload r_12_road_115 rfl ?_
                    refine pw_iast r_12_road_117 sh202 (by omega) (by omega) ?_
                    refine pw_iload r_12_road_118 rfl ?_
                    refine pw_iret r_12_road_120 rfl (Nat.le_refl _) ⟨rfl, ?_⟩
                    first | exact h1 (fun q => by first | omega | exact absurd (q.2.2 (by omega) (by omega)) (by assumption)) | exact h2 ⟨by omega, by omega⟩ ⟨by omega, by omega, by omega⟩ (fun _ _ => by first | assumption | omega) _ (by first | exact Or.inl ⟨by omega, rfl⟩ | exact Or.inr ⟨by omega, by omega⟩)
              · skip
                refine pw_const r_12_road_58 ?_
                refine pw_iret r_12_road_59 rfl (Nat.le_refl _) ⟨rfl, ?_⟩
                first | exact h1 (fun q => by first | omega | exact absurd (q.2.2 (by omega) (by omega)) (by assumption)) | exact h2 ⟨by omega, by omega⟩ ⟨by omega, by omega, by omega⟩ (fun _ _ => by first | assumption | omega) _ (by first | exact Or.inl ⟨by omega, rfl⟩ | exact Or.inr ⟨by omega, by omega⟩)
