/-- what a local is, is an int -/
theorem pw_rng {l : Launch} {w : Wo} {M : MI} {d K k pc i : Nat} {n : Int} {ls : List (Option PV)} {st : List PV} {G : PH} {Φ : Wo → Option PV → PH → Prop} (h : ls[i]? = some (some (vI n))) (K0 : iR n → PWg l w M d K k pc ls st G Φ) : PWg l w M d K k pc ls st G Φ := by
  intro p e s m args below meth c H locs lsr hC hW hO hS hL
  exact K0 (hO.2.2 (vI n) (List.mem_of_getElem? h)) p e s m args below meth c H locs lsr hC hW hO hS hL
theorem pw_rngG {l : Launch} {w : Wo} {M : MI} {d K k pc : Nat} {ls : List (Option PV)} {st : List PV} {G : PH} {Φ : Wo → Option PV → PH → Prop} (K0 : (∀ c r k, iR (gF G c r k)) → (∀ c r i, iR (gA G c r i)) → PWg l w M d K k pc ls st G Φ) : PWg l w M d K k pc ls st G Φ := by
  intro p e s m args below meth c H locs lsr hC hW hO hS hL
  exact K0 hO.1.1 hO.1.2.1 p e s m args below meth c H locs lsr hC hW hO hS hL

theorem wd_f1_48 : Cond.fieldLink "NameRolls$Crowd" 48 "NameRolls$Crowd" "land" "LNameRolls$Land;" ∈ UW := UW1_at 79 (by decide +kernel) rfl
theorem wd_m1_98 : Cond.methodLink "NameRolls$Crowd" 98 M_X2_isCamp.1 ∈ UW := UW3_at 121 (by decide +kernel) rfl
theorem wd_f1_132 : Cond.fieldLink "NameRolls$Crowd" 132 "NameRolls$Land" "beds" "[I" ∈ UW := UW1_at 39 (by decide +kernel) rfl
theorem wd_f1_76 : Cond.fieldLink "NameRolls$Crowd" 76 "NameRolls$Person" "place" "I" ∈ UW := UW3_at 182 (by decide +kernel) rfl
theorem wd_f1_122 : Cond.fieldLink "NameRolls$Crowd" 122 "NameRolls$Person" "number" "I" ∈ UW := UW3_at 149 (by decide +kernel) rfl
theorem wd_f1_24 : Cond.fieldLink "NameRolls$Crowd" 24 "NameRolls$Crowd" "stayCamp" "[I" ∈ UW := UW1_at 82 (by decide +kernel) rfl
theorem wd_f1_27 : Cond.fieldLink "NameRolls$Crowd" 27 "NameRolls$Crowd" "stayFrom" "[I" ∈ UW := UW1_at 83 (by decide +kernel) rfl
theorem wd_f1_60 : Cond.fieldLink "NameRolls$Crowd" 60 "NameRolls$Crowd" "day" "I" ∈ UW := UW1_at 72 (by decide +kernel) rfl
theorem wd_f1_30 : Cond.fieldLink "NameRolls$Crowd" 30 "NameRolls$Crowd" "stayTo" "[I" ∈ UW := UW1_at 84 (by decide +kernel) rfl
theorem wd_m1_81 : Cond.methodLink "NameRolls$Crowd" 81 M_X3_enter.1 ∈ UW := UW3_at 41 (by decide +kernel) rfl
theorem wd_s3_enter : Cond.selects M_X3_enter.1.cls M_X3_enter.1 M_X3_enter.1 ∈ UW := UW3_at 43 (by decide +kernel) rfl
theorem wd_m1_125 : Cond.methodLink "NameRolls$Crowd" 125 M_X1_get.1 ∈ UW := UW3_at 126 (by decide +kernel) rfl
theorem wd_s1_get : Cond.selects M_X1_get.1.cls M_X1_get.1 M_X1_get.1 ∈ UW := UW3_at 128 (by decide +kernel) rfl
theorem wd_f1_91 : Cond.fieldLink "NameRolls$Crowd" 91 "NameRolls$Person" "gradeDay" "I" ∈ UW := UW3_at 173 (by decide +kernel) rfl
theorem wd_m12_278 : Cond.methodLink "NameRollsModel" 278 M_X12_isPerson.1 ∈ UW := UW8_at 207 (by decide +kernel) rfl
theorem wd_s12_isPerson : Cond.selects M_X12_isPerson.1.cls M_X12_isPerson.1 M_X12_isPerson.1 ∈ UW := UWp_at 63 (by decide +kernel) rfl
theorem wd_f12_40 : Cond.fieldLink "NameRollsModel" 40 "NameRollsModel" "grade" "[I" ∈ UW := UW7_at 80 (by decide +kernel) rfl
theorem wd_f12_43 : Cond.fieldLink "NameRollsModel" 43 "NameRollsModel" "gradeSince" "[I" ∈ UW := UW7_at 81 (by decide +kernel) rfl
theorem wd_f12_268 : Cond.fieldLink "NameRollsModel" 268 "NameRollsModel" "day" "I" ∈ UW := UW7_at 68 (by decide +kernel) rfl
theorem wd_m1_145 : Cond.methodLink "NameRolls$Crowd" 145 M_X1_mayTurn.1 ∈ UW := UW3_at 237 (by decide +kernel) rfl
theorem wd_s1_mayTurn : Cond.selects M_X1_mayTurn.1.cls M_X1_mayTurn.1 M_X1_mayTurn.1 ∈ UW := UWp_at 10 (by decide +kernel) rfl
theorem wd_m1_94 : Cond.methodLink "NameRolls$Crowd" 94 M_X1_leave.1 ∈ UW := UW3_at 53 (by decide +kernel) rfl
theorem wd_s1_leave : Cond.selects M_X1_leave.1.cls M_X1_leave.1 M_X1_leave.1 ∈ UW := UWp_at 3 (by decide +kernel) rfl
theorem wd_f12_52 : Cond.fieldLink "NameRollsModel" 52 "NameRollsModel" "till" "[I" ∈ UW := UW7_at 84 (by decide +kernel) rfl
theorem wd_f12_64 : Cond.fieldLink "NameRollsModel" 64 "NameRollsModel" "stayTo" "[I" ∈ UW := UW7_at 89 (by decide +kernel) rfl
theorem wd_m12_275 : Cond.methodLink "NameRollsModel" 275 M_X12_becomes.1 ∈ UW := UW8_at 199 (by decide +kernel) rfl
theorem wd_s12_becomes : Cond.selects M_X12_becomes.1.cls M_X12_becomes.1 M_X12_becomes.1 ∈ UW := UWp_at 62 (by decide +kernel) rfl
theorem wd_f12_58 : Cond.fieldLink "NameRollsModel" 58 "NameRollsModel" "stayCamp" "[I" ∈ UW := UW7_at 87 (by decide +kernel) rfl
theorem wd_f12_61 : Cond.fieldLink "NameRollsModel" 61 "NameRollsModel" "stayFrom" "[I" ∈ UW := UW7_at 88 (by decide +kernel) rfl
theorem wd_c1_148 : Cond.constant "NameRolls$Crowd" 148 (Int32.ofInt (-2000000000)) ∈ UW := UW4_at 9 (by decide +kernel) rfl
theorem wd_f1_152 : Cond.fieldLink "NameRolls$Crowd" 152 "NameRolls$Person" "age" "I" ∈ UW := UW3_at 161 (by decide +kernel) rfl
theorem wd_f1_155 : Cond.fieldLink "NameRolls$Crowd" 155 "NameRolls$Person" "with" "I" ∈ UW := UW3_at 164 (by decide +kernel) rfl
theorem wd_f1_158 : Cond.fieldLink "NameRolls$Crowd" 158 "NameRolls$Person" "came" "I" ∈ UW := UW3_at 167 (by decide +kernel) rfl
theorem wd_m1_164 : Cond.methodLink "NameRolls$Crowd" 164 M_X1_countStays.1 ∈ UW := UW4_at 10 (by decide +kernel) rfl
theorem wd_s1_countStays : Cond.selects M_X1_countStays.1.cls M_X1_countStays.1 M_X1_countStays.1 ∈ UW := UWp_at 11 (by decide +kernel) rfl
theorem wd_f1_73 : Cond.fieldLink "NameRolls$Crowd" 73 "NameRolls$Person" "there" "I" ∈ UW := UW3_at 185 (by decide +kernel) rfl
theorem wd_f12_22 : Cond.fieldLink "NameRollsModel" 22 "NameRollsModel" "kind" "[I" ∈ UW := UW7_at 74 (by decide +kernel) rfl
theorem wd_f12_34 : Cond.fieldLink "NameRollsModel" 34 "NameRollsModel" "age" "[I" ∈ UW := UW7_at 78 (by decide +kernel) rfl
theorem wd_f12_37 : Cond.fieldLink "NameRollsModel" 37 "NameRollsModel" "with" "[I" ∈ UW := UW7_at 79 (by decide +kernel) rfl
theorem wd_f12_46 : Cond.fieldLink "NameRollsModel" 46 "NameRollsModel" "came" "[I" ∈ UW := UW7_at 82 (by decide +kernel) rfl
theorem wd_m12_290 : Cond.methodLink "NameRollsModel" 290 M_X12_staysOf.1 ∈ UW := UW8_at 236 (by decide +kernel) rfl
theorem wd_s12_staysOf : Cond.selects M_X12_staysOf.1.cls M_X12_staysOf.1 M_X12_staysOf.1 ∈ UW := UWp_at 66 (by decide +kernel) rfl
theorem wd_c12_289 : Cond.constant "NameRollsModel" 289 (Int32.ofInt (-2000000000)) ∈ UW := UW8_at 235 (by decide +kernel) rfl
theorem r_1_hasBed_0 : RA M_X1_hasBed 0 0 1 := Or.inl ⟨0, by decide +kernel, rfl, rfl⟩
theorem r_1_hasBed_1 : RG M_X1_hasBed 1 1 4 4 := ⟨48, _, by decide +kernel, rfl, by decide, wd_f1_48, rfl, rfl⟩
theorem r_1_hasBed_4 : RL M_X1_hasBed 4 1 5 := Or.inl ⟨1, by decide +kernel, rfl, rfl⟩
theorem r_1_hasBed_5 : RKv M_X1_hasBed M_X2_isCamp 5 1 2 8 := ⟨98, by decide +kernel, wd_m1_98, ok_M_X2_isCamp, wd_s2_isCamp, rfl⟩
theorem r_1_hasBed_8 : RB M_X1_hasBed 8 (.ifCond .ne) 13 11 := ⟨5, by decide +kernel, rfl, rfl⟩
theorem r_1_hasBed_13 : RC M_X1_hasBed 13 0 14 := ⟨⟨by decide, by decide⟩, Or.inl ⟨by decide +kernel, rfl⟩⟩
theorem r_1_hasBed_14 : RS M_X1_hasBed 14 2 15 := ⟨by decide, Or.inl ⟨2, by decide +kernel, rfl, rfl⟩⟩
theorem r_1_hasBed_15 : RC M_X1_hasBed 15 0 16 := ⟨⟨by decide, by decide⟩, Or.inl ⟨by decide +kernel, rfl⟩⟩
theorem r_1_hasBed_16 : RS M_X1_hasBed 16 3 17 := ⟨by decide, Or.inl ⟨3, by decide +kernel, rfl, rfl⟩⟩
theorem r_1_hasBed_17 : RL M_X1_hasBed 17 3 18 := Or.inl ⟨3, by decide +kernel, rfl, rfl⟩
theorem r_1_hasBed_18 : RA M_X1_hasBed 18 0 19 := Or.inl ⟨0, by decide +kernel, rfl, rfl⟩
theorem r_1_hasBed_19 : RG M_X1_hasBed 19 1 1 22 := ⟨52, _, by decide +kernel, rfl, by decide, wd_f1_52, rfl, rfl⟩
theorem r_1_hasBed_22 : RB M_X1_hasBed 22 (.if_icmp .ge) 65 25 := ⟨43, by decide +kernel, rfl, rfl⟩
theorem r_1_hasBed_65 : RL M_X1_hasBed 65 2 66 := Or.inl ⟨2, by decide +kernel, rfl, rfl⟩
theorem r_1_hasBed_66 : RA M_X1_hasBed 66 0 67 := Or.inl ⟨0, by decide +kernel, rfl, rfl⟩
theorem r_1_hasBed_67 : RG M_X1_hasBed 67 1 4 70 := ⟨48, _, by decide +kernel, rfl, by decide, wd_f1_48, rfl, rfl⟩
theorem r_1_hasBed_70 : RG M_X1_hasBed 70 2 1 73 := ⟨132, _, by decide +kernel, rfl, by decide, wd_f1_132, rfl, rfl⟩
theorem r_1_hasBed_73 : RL M_X1_hasBed 73 1 74 := Or.inl ⟨1, by decide +kernel, rfl, rfl⟩
theorem r_1_hasBed_74 : RW M_X1_hasBed 74 .iaload 75 1 := ⟨by decide +kernel, rfl⟩
theorem r_1_hasBed_75 : RB M_X1_hasBed 75 (.if_icmp .ge) 82 78 := ⟨7, by decide +kernel, rfl, rfl⟩
theorem r_1_hasBed_82 : RC M_X1_hasBed 82 0 83 := ⟨⟨by decide, by decide⟩, Or.inl ⟨by decide +kernel, rfl⟩⟩
theorem r_1_hasBed_83 : RW M_X1_hasBed 83 .ireturn 84 1 := ⟨by decide +kernel, rfl⟩
theorem r_1_hasBed_78 : RC M_X1_hasBed 78 1 79 := ⟨⟨by decide, by decide⟩, Or.inl ⟨by decide +kernel, rfl⟩⟩
theorem r_1_hasBed_79 : RB M_X1_hasBed 79 .goto 83 82 := ⟨4, by decide +kernel, rfl, rfl⟩
theorem r_1_hasBed_25 : RA M_X1_hasBed 25 0 26 := Or.inl ⟨0, by decide +kernel, rfl, rfl⟩
theorem r_1_hasBed_26 : RG M_X1_hasBed 26 1 0 29 := ⟨13, _, by decide +kernel, rfl, by decide, wd_f1_13, rfl, rfl⟩
theorem r_1_hasBed_29 : RL M_X1_hasBed 29 3 30 := Or.inl ⟨3, by decide +kernel, rfl, rfl⟩
theorem r_1_hasBed_30 : RW M_X1_hasBed 30 .aaload 31 1 := ⟨by decide +kernel, rfl⟩
theorem r_1_hasBed_31 : RT M_X1_hasBed 31 4 33 := ⟨by decide, Or.inr ⟨by decide +kernel, rfl⟩⟩
theorem r_1_hasBed_33 : RA M_X1_hasBed 33 4 35 := Or.inr ⟨by decide +kernel, rfl⟩
theorem r_1_hasBed_35 : RB M_X1_hasBed 35 .ifnull 59 38 := ⟨24, by decide +kernel, rfl, rfl⟩
theorem r_1_hasBed_38 : RA M_X1_hasBed 38 4 40 := Or.inr ⟨by decide +kernel, rfl⟩
theorem r_1_hasBed_40 : RG M_X1_hasBed 40 3 8 43 := ⟨70, _, by decide +kernel, rfl, by decide, wd_f1_70, rfl, rfl⟩
theorem r_1_hasBed_43 : RC M_X1_hasBed 43 1 44 := ⟨⟨by decide, by decide⟩, Or.inl ⟨by decide +kernel, rfl⟩⟩
theorem r_1_hasBed_44 : RB M_X1_hasBed 44 (.if_icmp .gt) 59 47 := ⟨15, by decide +kernel, rfl, rfl⟩
theorem r_1_hasBed_59 : RI M_X1_hasBed 59 3 1 62 := ⟨by decide, by decide +kernel, rfl⟩
theorem r_1_hasBed_62 : RB M_X1_hasBed 62 .goto 17 65 := ⟨(-45), by decide +kernel, rfl, rfl⟩
theorem r_1_hasBed_47 : RA M_X1_hasBed 47 4 49 := Or.inr ⟨by decide +kernel, rfl⟩
theorem r_1_hasBed_49 : RG M_X1_hasBed 49 3 10 52 := ⟨76, _, by decide +kernel, rfl, by decide, wd_f1_76, rfl, rfl⟩
theorem r_1_hasBed_52 : RL M_X1_hasBed 52 1 53 := Or.inl ⟨1, by decide +kernel, rfl, rfl⟩
theorem r_1_hasBed_53 : RB M_X1_hasBed 53 (.if_icmp .ne) 59 56 := ⟨6, by decide +kernel, rfl, rfl⟩
theorem r_1_hasBed_56 : RI M_X1_hasBed 56 2 1 59 := ⟨by decide, by decide +kernel, rfl⟩
theorem r_1_hasBed_11 : RC M_X1_hasBed 11 0 12 := ⟨⟨by decide, by decide⟩, Or.inl ⟨by decide +kernel, rfl⟩⟩
theorem r_1_hasBed_12 : RW M_X1_hasBed 12 .ireturn 13 1 := ⟨by decide +kernel, rfl⟩
theorem r_1_hasStay_0 : RA M_X1_hasStay 0 0 1 := Or.inl ⟨0, by decide +kernel, rfl, rfl⟩
theorem r_1_hasStay_1 : RG M_X1_hasStay 1 1 3 4 := ⟨135, _, by decide +kernel, rfl, by decide, wd_f1_135, rfl, rfl⟩
theorem r_1_hasStay_4 : RS M_X1_hasStay 4 1 5 := ⟨by decide, Or.inl ⟨1, by decide +kernel, rfl, rfl⟩⟩
theorem r_1_hasStay_5 : RC M_X1_hasStay 5 0 6 := ⟨⟨by decide, by decide⟩, Or.inl ⟨by decide +kernel, rfl⟩⟩
theorem r_1_hasStay_6 : RS M_X1_hasStay 6 2 7 := ⟨by decide, Or.inl ⟨2, by decide +kernel, rfl, rfl⟩⟩
theorem r_1_hasStay_7 : RL M_X1_hasStay 7 2 8 := Or.inl ⟨2, by decide +kernel, rfl, rfl⟩
theorem r_1_hasStay_8 : RA M_X1_hasStay 8 0 9 := Or.inl ⟨0, by decide +kernel, rfl, rfl⟩
theorem r_1_hasStay_9 : RG M_X1_hasStay 9 1 1 12 := ⟨52, _, by decide +kernel, rfl, by decide, wd_f1_52, rfl, rfl⟩
theorem r_1_hasStay_12 : RB M_X1_hasStay 12 (.if_icmp .ge) 57 15 := ⟨45, by decide +kernel, rfl, rfl⟩
theorem r_1_hasStay_57 : RL M_X1_hasStay 57 1 58 := Or.inl ⟨1, by decide +kernel, rfl, rfl⟩
theorem r_1_hasStay_58 : RC M_X1_hasStay 58 400 61 := ⟨⟨by decide, by decide⟩, Or.inr (Or.inr (Or.inl ⟨by decide +kernel, by decide, rfl⟩))⟩
theorem r_1_hasStay_61 : RB M_X1_hasStay 61 (.if_icmp .ge) 68 64 := ⟨7, by decide +kernel, rfl, rfl⟩
theorem r_1_hasStay_68 : RC M_X1_hasStay 68 0 69 := ⟨⟨by decide, by decide⟩, Or.inl ⟨by decide +kernel, rfl⟩⟩
theorem r_1_hasStay_69 : RW M_X1_hasStay 69 .ireturn 70 1 := ⟨by decide +kernel, rfl⟩
theorem r_1_hasStay_64 : RC M_X1_hasStay 64 1 65 := ⟨⟨by decide, by decide⟩, Or.inl ⟨by decide +kernel, rfl⟩⟩
theorem r_1_hasStay_65 : RB M_X1_hasStay 65 .goto 69 68 := ⟨4, by decide +kernel, rfl, rfl⟩
theorem r_1_hasStay_15 : RA M_X1_hasStay 15 0 16 := Or.inl ⟨0, by decide +kernel, rfl, rfl⟩
theorem r_1_hasStay_16 : RG M_X1_hasStay 16 1 0 19 := ⟨13, _, by decide +kernel, rfl, by decide, wd_f1_13, rfl, rfl⟩
theorem r_1_hasStay_19 : RL M_X1_hasStay 19 2 20 := Or.inl ⟨2, by decide +kernel, rfl, rfl⟩
theorem r_1_hasStay_20 : RW M_X1_hasStay 20 .aaload 21 1 := ⟨by decide +kernel, rfl⟩
theorem r_1_hasStay_21 : RT M_X1_hasStay 21 3 22 := ⟨by decide, Or.inl ⟨3, by decide +kernel, rfl, rfl⟩⟩
theorem r_1_hasStay_22 : RA M_X1_hasStay 22 3 23 := Or.inl ⟨3, by decide +kernel, rfl, rfl⟩
theorem r_1_hasStay_23 : RB M_X1_hasStay 23 .ifnull 51 26 := ⟨28, by decide +kernel, rfl, rfl⟩
theorem r_1_hasStay_26 : RA M_X1_hasStay 26 3 27 := Or.inl ⟨3, by decide +kernel, rfl, rfl⟩
theorem r_1_hasStay_27 : RG M_X1_hasStay 27 3 8 30 := ⟨70, _, by decide +kernel, rfl, by decide, wd_f1_70, rfl, rfl⟩
theorem r_1_hasStay_30 : RC M_X1_hasStay 30 1 31 := ⟨⟨by decide, by decide⟩, Or.inl ⟨by decide +kernel, rfl⟩⟩
theorem r_1_hasStay_31 : RB M_X1_hasStay 31 (.if_icmp .ne) 51 34 := ⟨20, by decide +kernel, rfl, rfl⟩
theorem r_1_hasStay_51 : RI M_X1_hasStay 51 2 1 54 := ⟨by decide, by decide +kernel, rfl⟩
theorem r_1_hasStay_54 : RB M_X1_hasStay 54 .goto 7 57 := ⟨(-47), by decide +kernel, rfl, rfl⟩
theorem r_1_hasStay_34 : RA M_X1_hasStay 34 0 35 := Or.inl ⟨0, by decide +kernel, rfl, rfl⟩
theorem r_1_hasStay_35 : RG M_X1_hasStay 35 1 4 38 := ⟨48, _, by decide +kernel, rfl, by decide, wd_f1_48, rfl, rfl⟩
theorem r_1_hasStay_38 : RA M_X1_hasStay 38 3 39 := Or.inl ⟨3, by decide +kernel, rfl, rfl⟩
theorem r_1_hasStay_39 : RG M_X1_hasStay 39 3 10 42 := ⟨76, _, by decide +kernel, rfl, by decide, wd_f1_76, rfl, rfl⟩
theorem r_1_hasStay_42 : RKv M_X1_hasStay M_X2_isCamp 42 1 2 45 := ⟨98, by decide +kernel, wd_m1_98, ok_M_X2_isCamp, wd_s2_isCamp, rfl⟩
theorem r_1_hasStay_45 : RB M_X1_hasStay 45 (.ifCond .eq) 51 48 := ⟨6, by decide +kernel, rfl, rfl⟩
theorem r_1_hasStay_48 : RI M_X1_hasStay 48 1 1 51 := ⟨by decide, by decide +kernel, rfl⟩
theorem r_1_beginStay_0 : RA M_X1_beginStay 0 0 1 := Or.inl ⟨0, by decide +kernel, rfl, rfl⟩
theorem r_1_beginStay_1 : RG M_X1_beginStay 1 1 3 4 := ⟨135, _, by decide +kernel, rfl, by decide, wd_f1_135, rfl, rfl⟩
theorem r_1_beginStay_4 : RC M_X1_beginStay 4 400 7 := ⟨⟨by decide, by decide⟩, Or.inr (Or.inr (Or.inl ⟨by decide +kernel, by decide, rfl⟩))⟩
theorem r_1_beginStay_7 : RB M_X1_beginStay 7 (.if_icmp .lt) 11 10 := ⟨4, by decide +kernel, rfl, rfl⟩
theorem r_1_beginStay_11 : RA M_X1_beginStay 11 0 12 := Or.inl ⟨0, by decide +kernel, rfl, rfl⟩
theorem r_1_beginStay_12 : RG M_X1_beginStay 12 1 6 15 := ⟨21, _, by decide +kernel, rfl, by decide, wd_f1_21, rfl, rfl⟩
theorem r_1_beginStay_15 : RA M_X1_beginStay 15 0 16 := Or.inl ⟨0, by decide +kernel, rfl, rfl⟩
theorem r_1_beginStay_16 : RG M_X1_beginStay 16 1 3 19 := ⟨135, _, by decide +kernel, rfl, by decide, wd_f1_135, rfl, rfl⟩
theorem r_1_beginStay_19 : RA M_X1_beginStay 19 1 20 := Or.inl ⟨1, by decide +kernel, rfl, rfl⟩
theorem r_1_beginStay_20 : RG M_X1_beginStay 20 3 0 23 := ⟨122, _, by decide +kernel, rfl, by decide, wd_f1_122, rfl, rfl⟩
theorem r_1_beginStay_23 : RW M_X1_beginStay 23 .iastore 24 1 := ⟨by decide +kernel, rfl⟩
theorem r_1_beginStay_24 : RA M_X1_beginStay 24 0 25 := Or.inl ⟨0, by decide +kernel, rfl, rfl⟩
theorem r_1_beginStay_25 : RG M_X1_beginStay 25 1 7 28 := ⟨24, _, by decide +kernel, rfl, by decide, wd_f1_24, rfl, rfl⟩
theorem r_1_beginStay_28 : RA M_X1_beginStay 28 0 29 := Or.inl ⟨0, by decide +kernel, rfl, rfl⟩
theorem r_1_beginStay_29 : RG M_X1_beginStay 29 1 3 32 := ⟨135, _, by decide +kernel, rfl, by decide, wd_f1_135, rfl, rfl⟩
theorem r_1_beginStay_32 : RA M_X1_beginStay 32 1 33 := Or.inl ⟨1, by decide +kernel, rfl, rfl⟩
theorem r_1_beginStay_33 : RG M_X1_beginStay 33 3 10 36 := ⟨76, _, by decide +kernel, rfl, by decide, wd_f1_76, rfl, rfl⟩
theorem r_1_beginStay_36 : RW M_X1_beginStay 36 .iastore 37 1 := ⟨by decide +kernel, rfl⟩
theorem r_1_beginStay_37 : RA M_X1_beginStay 37 0 38 := Or.inl ⟨0, by decide +kernel, rfl, rfl⟩
theorem r_1_beginStay_38 : RG M_X1_beginStay 38 1 8 41 := ⟨27, _, by decide +kernel, rfl, by decide, wd_f1_27, rfl, rfl⟩
theorem r_1_beginStay_41 : RA M_X1_beginStay 41 0 42 := Or.inl ⟨0, by decide +kernel, rfl, rfl⟩
theorem r_1_beginStay_42 : RG M_X1_beginStay 42 1 3 45 := ⟨135, _, by decide +kernel, rfl, by decide, wd_f1_135, rfl, rfl⟩
theorem r_1_beginStay_45 : RA M_X1_beginStay 45 0 46 := Or.inl ⟨0, by decide +kernel, rfl, rfl⟩
theorem r_1_beginStay_46 : RG M_X1_beginStay 46 1 2 49 := ⟨60, _, by decide +kernel, rfl, by decide, wd_f1_60, rfl, rfl⟩
theorem r_1_beginStay_49 : RW M_X1_beginStay 49 .iastore 50 1 := ⟨by decide +kernel, rfl⟩
theorem r_1_beginStay_50 : RA M_X1_beginStay 50 0 51 := Or.inl ⟨0, by decide +kernel, rfl, rfl⟩
theorem r_1_beginStay_51 : RG M_X1_beginStay 51 1 9 54 := ⟨30, _, by decide +kernel, rfl, by decide, wd_f1_30, rfl, rfl⟩
theorem r_1_beginStay_54 : RA M_X1_beginStay 54 0 55 := Or.inl ⟨0, by decide +kernel, rfl, rfl⟩
theorem r_1_beginStay_55 : RG M_X1_beginStay 55 1 3 58 := ⟨135, _, by decide +kernel, rfl, by decide, wd_f1_135, rfl, rfl⟩
theorem r_1_beginStay_58 : RC M_X1_beginStay 58 (-1) 59 := ⟨⟨by decide, by decide⟩, Or.inl ⟨by decide +kernel, rfl⟩⟩
theorem r_1_beginStay_59 : RW M_X1_beginStay 59 .iastore 60 1 := ⟨by decide +kernel, rfl⟩
theorem r_1_beginStay_60 : RA M_X1_beginStay 60 0 61 := Or.inl ⟨0, by decide +kernel, rfl, rfl⟩
theorem r_1_beginStay_61 : RW M_X1_beginStay 61 .dup 62 1 := ⟨by decide +kernel, rfl⟩
theorem r_1_beginStay_62 : RG M_X1_beginStay 62 1 3 65 := ⟨135, _, by decide +kernel, rfl, by decide, wd_f1_135, rfl, rfl⟩
theorem r_1_beginStay_65 : RC M_X1_beginStay 65 1 66 := ⟨⟨by decide, by decide⟩, Or.inl ⟨by decide +kernel, rfl⟩⟩
theorem r_1_beginStay_66 : RW M_X1_beginStay 66 .iadd 67 1 := ⟨by decide +kernel, rfl⟩
theorem r_1_beginStay_67 : RP M_X1_beginStay 67 1 3 70 := ⟨135, _, by decide +kernel, rfl, by decide, wd_f1_135, rfl, Or.inl rfl, rfl⟩
theorem r_1_beginStay_70 : RW M_X1_beginStay 70 .return_ 71 1 := ⟨by decide +kernel, rfl⟩
theorem r_1_beginStay_10 : RW M_X1_beginStay 10 .return_ 11 1 := ⟨by decide +kernel, rfl⟩
theorem r_1_leave_0 : RC M_X1_leave 0 0 1 := ⟨⟨by decide, by decide⟩, Or.inl ⟨by decide +kernel, rfl⟩⟩
theorem r_1_leave_1 : RS M_X1_leave 1 3 2 := ⟨by decide, Or.inl ⟨3, by decide +kernel, rfl, rfl⟩⟩
theorem r_1_leave_2 : RL M_X1_leave 2 3 3 := Or.inl ⟨3, by decide +kernel, rfl, rfl⟩
theorem r_1_leave_3 : RA M_X1_leave 3 0 4 := Or.inl ⟨0, by decide +kernel, rfl, rfl⟩
theorem r_1_leave_4 : RG M_X1_leave 4 1 3 7 := ⟨135, _, by decide +kernel, rfl, by decide, wd_f1_135, rfl, rfl⟩
theorem r_1_leave_7 : RB M_X1_leave 7 (.if_icmp .ge) 49 10 := ⟨42, by decide +kernel, rfl, rfl⟩
theorem r_1_leave_49 : RA M_X1_leave 49 1 50 := Or.inl ⟨1, by decide +kernel, rfl, rfl⟩
theorem r_1_leave_50 : RL M_X1_leave 50 2 51 := Or.inl ⟨2, by decide +kernel, rfl, rfl⟩
theorem r_1_leave_51 : RC M_X1_leave 51 (-1) 52 := ⟨⟨by decide, by decide⟩, Or.inl ⟨by decide +kernel, rfl⟩⟩
theorem r_1_leave_52 : RA M_X1_leave 52 0 53 := Or.inl ⟨0, by decide +kernel, rfl, rfl⟩
theorem r_1_leave_53 : RG M_X1_leave 53 1 2 56 := ⟨60, _, by decide +kernel, rfl, by decide, wd_f1_60, rfl, rfl⟩
theorem r_1_leave_56 : RKv M_X1_leave M_X3_enter 56 3 3 59 := ⟨81, by decide +kernel, wd_m1_81, ok_M_X3_enter, wd_s3_enter, rfl⟩
theorem r_1_leave_59 : RW M_X1_leave 59 .return_ 60 1 := ⟨by decide +kernel, rfl⟩
theorem r_1_leave_10 : RA M_X1_leave 10 0 11 := Or.inl ⟨0, by decide +kernel, rfl, rfl⟩
theorem r_1_leave_11 : RG M_X1_leave 11 1 6 14 := ⟨21, _, by decide +kernel, rfl, by decide, wd_f1_21, rfl, rfl⟩
theorem r_1_leave_14 : RL M_X1_leave 14 3 15 := Or.inl ⟨3, by decide +kernel, rfl, rfl⟩
theorem r_1_leave_15 : RW M_X1_leave 15 .iaload 16 1 := ⟨by decide +kernel, rfl⟩
theorem r_1_leave_16 : RA M_X1_leave 16 1 17 := Or.inl ⟨1, by decide +kernel, rfl, rfl⟩
theorem r_1_leave_17 : RG M_X1_leave 17 3 0 20 := ⟨122, _, by decide +kernel, rfl, by decide, wd_f1_122, rfl, rfl⟩
theorem r_1_leave_20 : RB M_X1_leave 20 (.if_icmp .ne) 43 23 := ⟨23, by decide +kernel, rfl, rfl⟩
theorem r_1_leave_43 : RI M_X1_leave 43 3 1 46 := ⟨by decide, by decide +kernel, rfl⟩
theorem r_1_leave_46 : RB M_X1_leave 46 .goto 2 49 := ⟨(-44), by decide +kernel, rfl, rfl⟩
theorem r_1_leave_23 : RA M_X1_leave 23 0 24 := Or.inl ⟨0, by decide +kernel, rfl, rfl⟩
theorem r_1_leave_24 : RG M_X1_leave 24 1 9 27 := ⟨30, _, by decide +kernel, rfl, by decide, wd_f1_30, rfl, rfl⟩
theorem r_1_leave_27 : RL M_X1_leave 27 3 28 := Or.inl ⟨3, by decide +kernel, rfl, rfl⟩
theorem r_1_leave_28 : RW M_X1_leave 28 .iaload 29 1 := ⟨by decide +kernel, rfl⟩
theorem r_1_leave_29 : RC M_X1_leave 29 (-1) 30 := ⟨⟨by decide, by decide⟩, Or.inl ⟨by decide +kernel, rfl⟩⟩
theorem r_1_leave_30 : RB M_X1_leave 30 (.if_icmp .ne) 43 33 := ⟨13, by decide +kernel, rfl, rfl⟩
theorem r_1_leave_33 : RA M_X1_leave 33 0 34 := Or.inl ⟨0, by decide +kernel, rfl, rfl⟩
theorem r_1_leave_34 : RG M_X1_leave 34 1 9 37 := ⟨30, _, by decide +kernel, rfl, by decide, wd_f1_30, rfl, rfl⟩
theorem r_1_leave_37 : RL M_X1_leave 37 3 38 := Or.inl ⟨3, by decide +kernel, rfl, rfl⟩
theorem r_1_leave_38 : RA M_X1_leave 38 0 39 := Or.inl ⟨0, by decide +kernel, rfl, rfl⟩
theorem r_1_leave_39 : RG M_X1_leave 39 1 2 42 := ⟨60, _, by decide +kernel, rfl, by decide, wd_f1_60, rfl, rfl⟩
theorem r_1_leave_42 : RW M_X1_leave 42 .iastore 43 1 := ⟨by decide +kernel, rfl⟩
theorem r_1_ease_0 : RA M_X1_ease 0 0 1 := Or.inl ⟨0, by decide +kernel, rfl, rfl⟩
theorem r_1_ease_1 : RL M_X1_ease 1 1 2 := Or.inl ⟨1, by decide +kernel, rfl, rfl⟩
theorem r_1_ease_2 : RKv M_X1_ease M_X1_get 2 1 1 5 := ⟨125, by decide +kernel, wd_m1_125, ok_M_X1_get, wd_s1_get, rfl⟩
theorem r_1_ease_5 : RT M_X1_ease 5 3 6 := ⟨by decide, Or.inl ⟨3, by decide +kernel, rfl, rfl⟩⟩
theorem r_1_ease_6 : RA M_X1_ease 6 3 7 := Or.inl ⟨3, by decide +kernel, rfl, rfl⟩
theorem r_1_ease_7 : RB M_X1_ease 7 .ifnull 20 10 := ⟨13, by decide +kernel, rfl, rfl⟩
theorem r_1_ease_20 : RC M_X1_ease 20 (-1) 21 := ⟨⟨by decide, by decide⟩, Or.inl ⟨by decide +kernel, rfl⟩⟩
theorem r_1_ease_21 : RW M_X1_ease 21 .ireturn 22 1 := ⟨by decide +kernel, rfl⟩
theorem r_1_ease_10 : RL M_X1_ease 10 2 11 := Or.inl ⟨2, by decide +kernel, rfl, rfl⟩
theorem r_1_ease_11 : RC M_X1_ease 11 0 12 := ⟨⟨by decide, by decide⟩, Or.inl ⟨by decide +kernel, rfl⟩⟩
theorem r_1_ease_12 : RC M_X1_ease 12 9 14 := ⟨⟨by decide, by decide⟩, Or.inr (Or.inl ⟨by decide +kernel, by decide, rfl⟩)⟩
theorem r_1_ease_14 : RKs M_X1_ease M_X11_within 14 3 17 := ⟨56, by decide +kernel, Or.inr (by decide +kernel), ok_M_X11_within, rfl⟩
theorem r_1_ease_17 : RB M_X1_ease 17 (.ifCond .ne) 22 20 := ⟨5, by decide +kernel, rfl, rfl⟩
theorem r_1_ease_22 : RA M_X1_ease 22 3 23 := Or.inl ⟨3, by decide +kernel, rfl, rfl⟩
theorem r_1_ease_23 : RG M_X1_ease 23 3 8 26 := ⟨70, _, by decide +kernel, rfl, by decide, wd_f1_70, rfl, rfl⟩
theorem r_1_ease_26 : RB M_X1_ease 26 (.ifCond .ne) 37 29 := ⟨11, by decide +kernel, rfl, rfl⟩
theorem r_1_ease_37 : RC M_X1_ease 37 (-3) 39 := ⟨⟨by decide, by decide⟩, Or.inr (Or.inl ⟨by decide +kernel, by decide, rfl⟩)⟩
theorem r_1_ease_39 : RW M_X1_ease 39 .ireturn 40 1 := ⟨by decide +kernel, rfl⟩
theorem r_1_ease_29 : RL M_X1_ease 29 2 30 := Or.inl ⟨2, by decide +kernel, rfl, rfl⟩
theorem r_1_ease_30 : RA M_X1_ease 30 3 31 := Or.inl ⟨3, by decide +kernel, rfl, rfl⟩
theorem r_1_ease_31 : RG M_X1_ease 31 3 6 34 := ⟨88, _, by decide +kernel, rfl, by decide, wd_f1_88, rfl, rfl⟩
theorem r_1_ease_34 : RB M_X1_ease 34 (.if_icmp .lt) 40 37 := ⟨6, by decide +kernel, rfl, rfl⟩
theorem r_1_ease_40 : RA M_X1_ease 40 3 41 := Or.inl ⟨3, by decide +kernel, rfl, rfl⟩
theorem r_1_ease_41 : RG M_X1_ease 41 3 6 44 := ⟨88, _, by decide +kernel, rfl, by decide, wd_f1_88, rfl, rfl⟩
theorem r_1_ease_44 : RS M_X1_ease 44 4 46 := ⟨by decide, Or.inr ⟨by decide +kernel, rfl⟩⟩
theorem r_1_ease_46 : RA M_X1_ease 46 3 47 := Or.inl ⟨3, by decide +kernel, rfl, rfl⟩
theorem r_1_ease_47 : RL M_X1_ease 47 2 48 := Or.inl ⟨2, by decide +kernel, rfl, rfl⟩
theorem r_1_ease_48 : RP M_X1_ease 48 3 6 51 := ⟨88, _, by decide +kernel, rfl, by decide, wd_f1_88, rfl, Or.inl rfl, rfl⟩
theorem r_1_ease_51 : RA M_X1_ease 51 3 52 := Or.inl ⟨3, by decide +kernel, rfl, rfl⟩
theorem r_1_ease_52 : RA M_X1_ease 52 0 53 := Or.inl ⟨0, by decide +kernel, rfl, rfl⟩
theorem r_1_ease_53 : RG M_X1_ease 53 1 2 56 := ⟨60, _, by decide +kernel, rfl, by decide, wd_f1_60, rfl, rfl⟩
theorem r_1_ease_56 : RP M_X1_ease 56 3 7 59 := ⟨91, _, by decide +kernel, rfl, by decide, wd_f1_91, rfl, Or.inl rfl, rfl⟩
theorem r_1_ease_59 : RL M_X1_ease 59 4 61 := Or.inr ⟨by decide +kernel, rfl⟩
theorem r_1_ease_61 : RW M_X1_ease 61 .ireturn 62 1 := ⟨by decide +kernel, rfl⟩
theorem r_12_heal_0 : RA M_X12_heal 0 0 1 := Or.inl ⟨0, by decide +kernel, rfl, rfl⟩
theorem r_12_heal_1 : RL M_X12_heal 1 1 2 := Or.inl ⟨1, by decide +kernel, rfl, rfl⟩
theorem r_12_heal_2 : RKv M_X12_heal M_X12_isPerson 2 1 12 5 := ⟨278, by decide +kernel, wd_m12_278, ok_M_X12_isPerson, wd_s12_isPerson, rfl⟩
theorem r_12_heal_5 : RB M_X12_heal 5 (.ifCond .eq) 18 8 := ⟨13, by decide +kernel, rfl, rfl⟩
theorem r_12_heal_18 : RC M_X12_heal 18 (-1) 19 := ⟨⟨by decide, by decide⟩, Or.inl ⟨by decide +kernel, rfl⟩⟩
theorem r_12_heal_19 : RW M_X12_heal 19 .ireturn 20 1 := ⟨by decide +kernel, rfl⟩
theorem r_12_heal_8 : RL M_X12_heal 8 2 9 := Or.inl ⟨2, by decide +kernel, rfl, rfl⟩
theorem r_12_heal_9 : RC M_X12_heal 9 0 10 := ⟨⟨by decide, by decide⟩, Or.inl ⟨by decide +kernel, rfl⟩⟩
theorem r_12_heal_10 : RC M_X12_heal 10 9 12 := ⟨⟨by decide, by decide⟩, Or.inr (Or.inl ⟨by decide +kernel, by decide, rfl⟩)⟩
theorem r_12_heal_12 : RKs M_X12_heal M_X12_within 12 3 15 := ⟨240, by decide +kernel, Or.inl wd_m12_240, ok_M_X12_within, rfl⟩
theorem r_12_heal_15 : RB M_X12_heal 15 (.ifCond .ne) 20 18 := ⟨5, by decide +kernel, rfl, rfl⟩
theorem r_12_heal_20 : RA M_X12_heal 20 0 21 := Or.inl ⟨0, by decide +kernel, rfl, rfl⟩
theorem r_12_heal_21 : RG M_X12_heal 21 12 8 24 := ⟨28, _, by decide +kernel, rfl, by decide, wd_f12_28, rfl, rfl⟩
theorem r_12_heal_24 : RL M_X12_heal 24 1 25 := Or.inl ⟨1, by decide +kernel, rfl, rfl⟩
theorem r_12_heal_25 : RW M_X12_heal 25 .iaload 26 1 := ⟨by decide +kernel, rfl⟩
theorem r_12_heal_26 : RB M_X12_heal 26 (.ifCond .ne) 39 29 := ⟨13, by decide +kernel, rfl, rfl⟩
theorem r_12_heal_39 : RC M_X12_heal 39 (-3) 41 := ⟨⟨by decide, by decide⟩, Or.inr (Or.inl ⟨by decide +kernel, by decide, rfl⟩)⟩
theorem r_12_heal_41 : RW M_X12_heal 41 .ireturn 42 1 := ⟨by decide +kernel, rfl⟩
theorem r_12_heal_29 : RL M_X12_heal 29 2 30 := Or.inl ⟨2, by decide +kernel, rfl, rfl⟩
theorem r_12_heal_30 : RA M_X12_heal 30 0 31 := Or.inl ⟨0, by decide +kernel, rfl, rfl⟩
theorem r_12_heal_31 : RG M_X12_heal 31 12 12 34 := ⟨40, _, by decide +kernel, rfl, by decide, wd_f12_40, rfl, rfl⟩
theorem r_12_heal_34 : RL M_X12_heal 34 1 35 := Or.inl ⟨1, by decide +kernel, rfl, rfl⟩
theorem r_12_heal_35 : RW M_X12_heal 35 .iaload 36 1 := ⟨by decide +kernel, rfl⟩
theorem r_12_heal_36 : RB M_X12_heal 36 (.if_icmp .lt) 42 39 := ⟨6, by decide +kernel, rfl, rfl⟩
theorem r_12_heal_42 : RA M_X12_heal 42 0 43 := Or.inl ⟨0, by decide +kernel, rfl, rfl⟩
theorem r_12_heal_43 : RG M_X12_heal 43 12 12 46 := ⟨40, _, by decide +kernel, rfl, by decide, wd_f12_40, rfl, rfl⟩
theorem r_12_heal_46 : RL M_X12_heal 46 1 47 := Or.inl ⟨1, by decide +kernel, rfl, rfl⟩
theorem r_12_heal_47 : RW M_X12_heal 47 .iaload 48 1 := ⟨by decide +kernel, rfl⟩
theorem r_12_heal_48 : RS M_X12_heal 48 3 49 := ⟨by decide, Or.inl ⟨3, by decide +kernel, rfl, rfl⟩⟩
theorem r_12_heal_49 : RA M_X12_heal 49 0 50 := Or.inl ⟨0, by decide +kernel, rfl, rfl⟩
theorem r_12_heal_50 : RG M_X12_heal 50 12 12 53 := ⟨40, _, by decide +kernel, rfl, by decide, wd_f12_40, rfl, rfl⟩
theorem r_12_heal_53 : RL M_X12_heal 53 1 54 := Or.inl ⟨1, by decide +kernel, rfl, rfl⟩
theorem r_12_heal_54 : RL M_X12_heal 54 2 55 := Or.inl ⟨2, by decide +kernel, rfl, rfl⟩
theorem r_12_heal_55 : RW M_X12_heal 55 .iastore 56 1 := ⟨by decide +kernel, rfl⟩
theorem r_12_heal_56 : RA M_X12_heal 56 0 57 := Or.inl ⟨0, by decide +kernel, rfl, rfl⟩
theorem r_12_heal_57 : RG M_X12_heal 57 12 13 60 := ⟨43, _, by decide +kernel, rfl, by decide, wd_f12_43, rfl, rfl⟩
theorem r_12_heal_60 : RL M_X12_heal 60 1 61 := Or.inl ⟨1, by decide +kernel, rfl, rfl⟩
theorem r_12_heal_61 : RA M_X12_heal 61 0 62 := Or.inl ⟨0, by decide +kernel, rfl, rfl⟩
theorem r_12_heal_62 : RG M_X12_heal 62 12 0 65 := ⟨268, _, by decide +kernel, rfl, by decide, wd_f12_268, rfl, rfl⟩
theorem r_12_heal_65 : RW M_X12_heal 65 .iastore 66 1 := ⟨by decide +kernel, rfl⟩
theorem r_12_heal_66 : RL M_X12_heal 66 3 67 := Or.inl ⟨3, by decide +kernel, rfl, rfl⟩
theorem r_12_heal_67 : RW M_X12_heal 67 .ireturn 68 1 := ⟨by decide +kernel, rfl⟩
theorem r_1_mayTurn_0 : RL M_X1_mayTurn 0 2 1 := Or.inl ⟨2, by decide +kernel, rfl, rfl⟩
theorem r_1_mayTurn_1 : RTS M_X1_mayTurn 1 [(4, 32), (5, 43), (6, 59), (7, 59)] 69 := ⟨68, 4, 7, #[31, 42, 58, 58], 31, by decide +kernel, by decide, rfl, by decide⟩
theorem r_1_mayTurn_32 : RL M_X1_mayTurn 32 1 33 := Or.inl ⟨1, by decide +kernel, rfl, rfl⟩
theorem r_1_mayTurn_33 : RC M_X1_mayTurn 33 2 34 := ⟨⟨by decide, by decide⟩, Or.inl ⟨by decide +kernel, rfl⟩⟩
theorem r_1_mayTurn_34 : RB M_X1_mayTurn 34 (.if_icmp .ne) 41 37 := ⟨7, by decide +kernel, rfl, rfl⟩
theorem r_1_mayTurn_41 : RC M_X1_mayTurn 41 0 42 := ⟨⟨by decide, by decide⟩, Or.inl ⟨by decide +kernel, rfl⟩⟩
theorem r_1_mayTurn_42 : RW M_X1_mayTurn 42 .ireturn 43 1 := ⟨by decide +kernel, rfl⟩
theorem r_1_mayTurn_37 : RC M_X1_mayTurn 37 1 38 := ⟨⟨by decide, by decide⟩, Or.inl ⟨by decide +kernel, rfl⟩⟩
theorem r_1_mayTurn_38 : RB M_X1_mayTurn 38 .goto 42 41 := ⟨4, by decide +kernel, rfl, rfl⟩
theorem r_1_mayTurn_43 : RL M_X1_mayTurn 43 1 44 := Or.inl ⟨1, by decide +kernel, rfl, rfl⟩
theorem r_1_mayTurn_44 : RC M_X1_mayTurn 44 3 45 := ⟨⟨by decide, by decide⟩, Or.inl ⟨by decide +kernel, rfl⟩⟩
theorem r_1_mayTurn_45 : RB M_X1_mayTurn 45 (.if_icmp .eq) 53 48 := ⟨8, by decide +kernel, rfl, rfl⟩
theorem r_1_mayTurn_53 : RC M_X1_mayTurn 53 1 54 := ⟨⟨by decide, by decide⟩, Or.inl ⟨by decide +kernel, rfl⟩⟩
theorem r_1_mayTurn_54 : RB M_X1_mayTurn 54 .goto 58 57 := ⟨4, by decide +kernel, rfl, rfl⟩
theorem r_1_mayTurn_58 : RW M_X1_mayTurn 58 .ireturn 59 1 := ⟨by decide +kernel, rfl⟩
theorem r_1_mayTurn_48 : RL M_X1_mayTurn 48 1 49 := Or.inl ⟨1, by decide +kernel, rfl, rfl⟩
theorem r_1_mayTurn_49 : RC M_X1_mayTurn 49 4 50 := ⟨⟨by decide, by decide⟩, Or.inl ⟨by decide +kernel, rfl⟩⟩
theorem r_1_mayTurn_50 : RB M_X1_mayTurn 50 (.if_icmp .ne) 57 53 := ⟨7, by decide +kernel, rfl, rfl⟩
theorem r_1_mayTurn_57 : RC M_X1_mayTurn 57 0 58 := ⟨⟨by decide, by decide⟩, Or.inl ⟨by decide +kernel, rfl⟩⟩
theorem r_1_mayTurn_59 : RL M_X1_mayTurn 59 1 60 := Or.inl ⟨1, by decide +kernel, rfl, rfl⟩
theorem r_1_mayTurn_60 : RB M_X1_mayTurn 60 (.ifCond .ne) 67 63 := ⟨7, by decide +kernel, rfl, rfl⟩
theorem r_1_mayTurn_67 : RC M_X1_mayTurn 67 0 68 := ⟨⟨by decide, by decide⟩, Or.inl ⟨by decide +kernel, rfl⟩⟩
theorem r_1_mayTurn_68 : RW M_X1_mayTurn 68 .ireturn 69 1 := ⟨by decide +kernel, rfl⟩
theorem r_1_mayTurn_63 : RC M_X1_mayTurn 63 1 64 := ⟨⟨by decide, by decide⟩, Or.inl ⟨by decide +kernel, rfl⟩⟩
theorem r_1_mayTurn_64 : RB M_X1_mayTurn 64 .goto 68 67 := ⟨4, by decide +kernel, rfl, rfl⟩
theorem r_1_mayTurn_69 : RL M_X1_mayTurn 69 1 70 := Or.inl ⟨1, by decide +kernel, rfl, rfl⟩
theorem r_1_mayTurn_70 : RC M_X1_mayTurn 70 4 71 := ⟨⟨by decide, by decide⟩, Or.inl ⟨by decide +kernel, rfl⟩⟩
theorem r_1_mayTurn_71 : RB M_X1_mayTurn 71 (.if_icmp .gt) 78 74 := ⟨7, by decide +kernel, rfl, rfl⟩
theorem r_1_mayTurn_78 : RC M_X1_mayTurn 78 0 79 := ⟨⟨by decide, by decide⟩, Or.inl ⟨by decide +kernel, rfl⟩⟩
theorem r_1_mayTurn_79 : RW M_X1_mayTurn 79 .ireturn 80 1 := ⟨by decide +kernel, rfl⟩
theorem r_1_mayTurn_74 : RC M_X1_mayTurn 74 1 75 := ⟨⟨by decide, by decide⟩, Or.inl ⟨by decide +kernel, rfl⟩⟩
theorem r_1_mayTurn_75 : RB M_X1_mayTurn 75 .goto 79 78 := ⟨4, by decide +kernel, rfl, rfl⟩
theorem r_1_turn_0 : RA M_X1_turn 0 0 1 := Or.inl ⟨0, by decide +kernel, rfl, rfl⟩
theorem r_1_turn_1 : RL M_X1_turn 1 1 2 := Or.inl ⟨1, by decide +kernel, rfl, rfl⟩
theorem r_1_turn_2 : RKv M_X1_turn M_X1_get 2 1 1 5 := ⟨125, by decide +kernel, wd_m1_125, ok_M_X1_get, wd_s1_get, rfl⟩
theorem r_1_turn_5 : RT M_X1_turn 5 3 6 := ⟨by decide, Or.inl ⟨3, by decide +kernel, rfl, rfl⟩⟩
theorem r_1_turn_6 : RA M_X1_turn 6 3 7 := Or.inl ⟨3, by decide +kernel, rfl, rfl⟩
theorem r_1_turn_7 : RB M_X1_turn 7 .ifnull 20 10 := ⟨13, by decide +kernel, rfl, rfl⟩
theorem r_1_turn_20 : RC M_X1_turn 20 (-1) 21 := ⟨⟨by decide, by decide⟩, Or.inl ⟨by decide +kernel, rfl⟩⟩
theorem r_1_turn_21 : RW M_X1_turn 21 .ireturn 22 1 := ⟨by decide +kernel, rfl⟩
theorem r_1_turn_10 : RL M_X1_turn 10 2 11 := Or.inl ⟨2, by decide +kernel, rfl, rfl⟩
theorem r_1_turn_11 : RC M_X1_turn 11 4 12 := ⟨⟨by decide, by decide⟩, Or.inl ⟨by decide +kernel, rfl⟩⟩
theorem r_1_turn_12 : RC M_X1_turn 12 8 14 := ⟨⟨by decide, by decide⟩, Or.inr (Or.inl ⟨by decide +kernel, by decide, rfl⟩)⟩
theorem r_1_turn_14 : RKs M_X1_turn M_X11_within 14 3 17 := ⟨56, by decide +kernel, Or.inr (by decide +kernel), ok_M_X11_within, rfl⟩
theorem r_1_turn_17 : RB M_X1_turn 17 (.ifCond .ne) 22 20 := ⟨5, by decide +kernel, rfl, rfl⟩
theorem r_1_turn_22 : RA M_X1_turn 22 0 23 := Or.inl ⟨0, by decide +kernel, rfl, rfl⟩
theorem r_1_turn_23 : RA M_X1_turn 23 3 24 := Or.inl ⟨3, by decide +kernel, rfl, rfl⟩
theorem r_1_turn_24 : RG M_X1_turn 24 3 8 27 := ⟨70, _, by decide +kernel, rfl, by decide, wd_f1_70, rfl, rfl⟩
theorem r_1_turn_27 : RL M_X1_turn 27 2 28 := Or.inl ⟨2, by decide +kernel, rfl, rfl⟩
theorem r_1_turn_28 : RKv M_X1_turn M_X1_mayTurn 28 2 1 31 := ⟨145, by decide +kernel, wd_m1_145, ok_M_X1_mayTurn, wd_s1_mayTurn, rfl⟩
theorem r_1_turn_31 : RB M_X1_turn 31 (.ifCond .ne) 37 34 := ⟨6, by decide +kernel, rfl, rfl⟩
theorem r_1_turn_37 : RA M_X1_turn 37 0 38 := Or.inl ⟨0, by decide +kernel, rfl, rfl⟩
theorem r_1_turn_38 : RA M_X1_turn 38 3 39 := Or.inl ⟨3, by decide +kernel, rfl, rfl⟩
theorem r_1_turn_39 : RL M_X1_turn 39 2 40 := Or.inl ⟨2, by decide +kernel, rfl, rfl⟩
theorem r_1_turn_40 : RKv M_X1_turn M_X1_leave 40 2 1 43 := ⟨94, by decide +kernel, wd_m1_94, ok_M_X1_leave, wd_s1_leave, rfl⟩
theorem r_1_turn_43 : RC M_X1_turn 43 1 44 := ⟨⟨by decide, by decide⟩, Or.inl ⟨by decide +kernel, rfl⟩⟩
theorem r_1_turn_44 : RW M_X1_turn 44 .ireturn 45 1 := ⟨by decide +kernel, rfl⟩
theorem r_1_turn_34 : RC M_X1_turn 34 (-3) 36 := ⟨⟨by decide, by decide⟩, Or.inr (Or.inl ⟨by decide +kernel, by decide, rfl⟩)⟩
theorem r_1_turn_36 : RW M_X1_turn 36 .ireturn 37 1 := ⟨by decide +kernel, rfl⟩
theorem r_12_becomes_0 : RA M_X12_becomes 0 0 1 := Or.inl ⟨0, by decide +kernel, rfl, rfl⟩
theorem r_12_becomes_1 : RG M_X12_becomes 1 12 8 4 := ⟨28, _, by decide +kernel, rfl, by decide, wd_f12_28, rfl, rfl⟩
theorem r_12_becomes_4 : RL M_X12_becomes 4 1 5 := Or.inl ⟨1, by decide +kernel, rfl, rfl⟩
theorem r_12_becomes_5 : RW M_X12_becomes 5 .iaload 6 1 := ⟨by decide +kernel, rfl⟩
theorem r_12_becomes_6 : RB M_X12_becomes 6 (.ifCond .ne) 54 9 := ⟨48, by decide +kernel, rfl, rfl⟩
theorem r_12_becomes_54 : RA M_X12_becomes 54 0 55 := Or.inl ⟨0, by decide +kernel, rfl, rfl⟩
theorem r_12_becomes_55 : RG M_X12_becomes 55 12 8 58 := ⟨28, _, by decide +kernel, rfl, by decide, wd_f12_28, rfl, rfl⟩
theorem r_12_becomes_58 : RL M_X12_becomes 58 1 59 := Or.inl ⟨1, by decide +kernel, rfl, rfl⟩
theorem r_12_becomes_59 : RL M_X12_becomes 59 2 60 := Or.inl ⟨2, by decide +kernel, rfl, rfl⟩
theorem r_12_becomes_60 : RW M_X12_becomes 60 .iastore 61 1 := ⟨by decide +kernel, rfl⟩
theorem r_12_becomes_61 : RA M_X12_becomes 61 0 62 := Or.inl ⟨0, by decide +kernel, rfl, rfl⟩
theorem r_12_becomes_62 : RG M_X12_becomes 62 12 15 65 := ⟨49, _, by decide +kernel, rfl, by decide, wd_f12_49, rfl, rfl⟩
theorem r_12_becomes_65 : RL M_X12_becomes 65 1 66 := Or.inl ⟨1, by decide +kernel, rfl, rfl⟩
theorem r_12_becomes_66 : RA M_X12_becomes 66 0 67 := Or.inl ⟨0, by decide +kernel, rfl, rfl⟩
theorem r_12_becomes_67 : RG M_X12_becomes 67 12 0 70 := ⟨268, _, by decide +kernel, rfl, by decide, wd_f12_268, rfl, rfl⟩
theorem r_12_becomes_70 : RW M_X12_becomes 70 .iastore 71 1 := ⟨by decide +kernel, rfl⟩
theorem r_12_becomes_71 : RA M_X12_becomes 71 0 72 := Or.inl ⟨0, by decide +kernel, rfl, rfl⟩
theorem r_12_becomes_72 : RG M_X12_becomes 72 12 16 75 := ⟨52, _, by decide +kernel, rfl, by decide, wd_f12_52, rfl, rfl⟩
theorem r_12_becomes_75 : RL M_X12_becomes 75 1 76 := Or.inl ⟨1, by decide +kernel, rfl, rfl⟩
theorem r_12_becomes_76 : RC M_X12_becomes 76 (-1) 77 := ⟨⟨by decide, by decide⟩, Or.inl ⟨by decide +kernel, rfl⟩⟩
theorem r_12_becomes_77 : RW M_X12_becomes 77 .iastore 78 1 := ⟨by decide +kernel, rfl⟩
theorem r_12_becomes_78 : RW M_X12_becomes 78 .return_ 79 1 := ⟨by decide +kernel, rfl⟩
theorem r_12_becomes_9 : RC M_X12_becomes 9 0 10 := ⟨⟨by decide, by decide⟩, Or.inl ⟨by decide +kernel, rfl⟩⟩
theorem r_12_becomes_10 : RS M_X12_becomes 10 3 11 := ⟨by decide, Or.inl ⟨3, by decide +kernel, rfl, rfl⟩⟩
theorem r_12_becomes_11 : RL M_X12_becomes 11 3 12 := Or.inl ⟨3, by decide +kernel, rfl, rfl⟩
theorem r_12_becomes_12 : RA M_X12_becomes 12 0 13 := Or.inl ⟨0, by decide +kernel, rfl, rfl⟩
theorem r_12_becomes_13 : RG M_X12_becomes 13 12 22 16 := ⟨265, _, by decide +kernel, rfl, by decide, wd_f12_265, rfl, rfl⟩
theorem r_12_becomes_16 : RB M_X12_becomes 16 (.if_icmp .ge) 54 19 := ⟨38, by decide +kernel, rfl, rfl⟩
theorem r_12_becomes_19 : RA M_X12_becomes 19 0 20 := Or.inl ⟨0, by decide +kernel, rfl, rfl⟩
theorem r_12_becomes_20 : RG M_X12_becomes 20 12 18 23 := ⟨55, _, by decide +kernel, rfl, by decide, wd_f12_55, rfl, rfl⟩
theorem r_12_becomes_23 : RL M_X12_becomes 23 3 24 := Or.inl ⟨3, by decide +kernel, rfl, rfl⟩
theorem r_12_becomes_24 : RW M_X12_becomes 24 .iaload 25 1 := ⟨by decide +kernel, rfl⟩
theorem r_12_becomes_25 : RL M_X12_becomes 25 1 26 := Or.inl ⟨1, by decide +kernel, rfl, rfl⟩
theorem r_12_becomes_26 : RB M_X12_becomes 26 (.if_icmp .ne) 48 29 := ⟨22, by decide +kernel, rfl, rfl⟩
theorem r_12_becomes_48 : RI M_X12_becomes 48 3 1 51 := ⟨by decide, by decide +kernel, rfl⟩
theorem r_12_becomes_51 : RB M_X12_becomes 51 .goto 11 54 := ⟨(-40), by decide +kernel, rfl, rfl⟩
theorem r_12_becomes_29 : RA M_X12_becomes 29 0 30 := Or.inl ⟨0, by decide +kernel, rfl, rfl⟩
theorem r_12_becomes_30 : RG M_X12_becomes 30 12 21 33 := ⟨64, _, by decide +kernel, rfl, by decide, wd_f12_64, rfl, rfl⟩
theorem r_12_becomes_33 : RL M_X12_becomes 33 3 34 := Or.inl ⟨3, by decide +kernel, rfl, rfl⟩
theorem r_12_becomes_34 : RW M_X12_becomes 34 .iaload 35 1 := ⟨by decide +kernel, rfl⟩
theorem r_12_becomes_35 : RB M_X12_becomes 35 (.ifCond .ge) 48 38 := ⟨13, by decide +kernel, rfl, rfl⟩
theorem r_12_becomes_38 : RA M_X12_becomes 38 0 39 := Or.inl ⟨0, by decide +kernel, rfl, rfl⟩
theorem r_12_becomes_39 : RG M_X12_becomes 39 12 21 42 := ⟨64, _, by decide +kernel, rfl, by decide, wd_f12_64, rfl, rfl⟩
theorem r_12_becomes_42 : RL M_X12_becomes 42 3 43 := Or.inl ⟨3, by decide +kernel, rfl, rfl⟩
theorem r_12_becomes_43 : RA M_X12_becomes 43 0 44 := Or.inl ⟨0, by decide +kernel, rfl, rfl⟩
theorem r_12_becomes_44 : RG M_X12_becomes 44 12 0 47 := ⟨268, _, by decide +kernel, rfl, by decide, wd_f12_268, rfl, rfl⟩
theorem r_12_becomes_47 : RW M_X12_becomes 47 .iastore 48 1 := ⟨by decide +kernel, rfl⟩
theorem r_12_become_0 : RA M_X12_become 0 0 1 := Or.inl ⟨0, by decide +kernel, rfl, rfl⟩
theorem r_12_become_1 : RL M_X12_become 1 1 2 := Or.inl ⟨1, by decide +kernel, rfl, rfl⟩
theorem r_12_become_2 : RKv M_X12_become M_X12_isPerson 2 1 12 5 := ⟨278, by decide +kernel, wd_m12_278, ok_M_X12_isPerson, wd_s12_isPerson, rfl⟩
theorem r_12_become_5 : RB M_X12_become 5 (.ifCond .eq) 18 8 := ⟨13, by decide +kernel, rfl, rfl⟩
theorem r_12_become_18 : RC M_X12_become 18 (-1) 19 := ⟨⟨by decide, by decide⟩, Or.inl ⟨by decide +kernel, rfl⟩⟩
theorem r_12_become_19 : RW M_X12_become 19 .ireturn 20 1 := ⟨by decide +kernel, rfl⟩
theorem r_12_become_8 : RL M_X12_become 8 2 9 := Or.inl ⟨2, by decide +kernel, rfl, rfl⟩
theorem r_12_become_9 : RC M_X12_become 9 4 10 := ⟨⟨by decide, by decide⟩, Or.inl ⟨by decide +kernel, rfl⟩⟩
theorem r_12_become_10 : RC M_X12_become 10 8 12 := ⟨⟨by decide, by decide⟩, Or.inr (Or.inl ⟨by decide +kernel, by decide, rfl⟩)⟩
theorem r_12_become_12 : RKs M_X12_become M_X12_within 12 3 15 := ⟨240, by decide +kernel, Or.inl wd_m12_240, ok_M_X12_within, rfl⟩
theorem r_12_become_15 : RB M_X12_become 15 (.ifCond .ne) 20 18 := ⟨5, by decide +kernel, rfl, rfl⟩
theorem r_12_become_20 : RA M_X12_become 20 0 21 := Or.inl ⟨0, by decide +kernel, rfl, rfl⟩
theorem r_12_become_21 : RG M_X12_become 21 12 8 24 := ⟨28, _, by decide +kernel, rfl, by decide, wd_f12_28, rfl, rfl⟩
theorem r_12_become_24 : RL M_X12_become 24 1 25 := Or.inl ⟨1, by decide +kernel, rfl, rfl⟩
theorem r_12_become_25 : RW M_X12_become 25 .iaload 26 1 := ⟨by decide +kernel, rfl⟩
theorem r_12_become_96 : RS M_X12_become 96 4 98 := ⟨by decide, Or.inr ⟨by decide +kernel, rfl⟩⟩
theorem r_12_become_98 : RL M_X12_become 98 4 100 := Or.inr ⟨by decide +kernel, rfl⟩
theorem r_12_become_100 : RB M_X12_become 100 (.ifCond .ne) 106 103 := ⟨6, by decide +kernel, rfl, rfl⟩
theorem r_12_become_106 : RA M_X12_become 106 0 107 := Or.inl ⟨0, by decide +kernel, rfl, rfl⟩
theorem r_12_become_107 : RL M_X12_become 107 1 108 := Or.inl ⟨1, by decide +kernel, rfl, rfl⟩
theorem r_12_become_108 : RL M_X12_become 108 2 109 := Or.inl ⟨2, by decide +kernel, rfl, rfl⟩
theorem r_12_become_109 : RKv M_X12_become M_X12_becomes 109 2 12 112 := ⟨275, by decide +kernel, wd_m12_275, ok_M_X12_becomes, wd_s12_becomes, rfl⟩
theorem r_12_become_112 : RC M_X12_become 112 1 113 := ⟨⟨by decide, by decide⟩, Or.inl ⟨by decide +kernel, rfl⟩⟩
theorem r_12_become_113 : RW M_X12_become 113 .ireturn 114 1 := ⟨by decide +kernel, rfl⟩
theorem r_12_become_103 : RC M_X12_become 103 (-3) 105 := ⟨⟨by decide, by decide⟩, Or.inr (Or.inl ⟨by decide +kernel, by decide, rfl⟩)⟩
theorem r_12_become_105 : RW M_X12_become 105 .ireturn 106 1 := ⟨by decide +kernel, rfl⟩
theorem r_12_become_26 : RS M_X12_become 26 3 27 := ⟨by decide, Or.inl ⟨3, by decide +kernel, rfl, rfl⟩⟩
theorem r_12_become_27 : RL M_X12_become 27 2 28 := Or.inl ⟨2, by decide +kernel, rfl, rfl⟩
theorem r_12_become_28 : RC M_X12_become 28 4 29 := ⟨⟨by decide, by decide⟩, Or.inl ⟨by decide +kernel, rfl⟩⟩
theorem r_12_become_29 : RB M_X12_become 29 (.if_icmp .ne) 45 32 := ⟨16, by decide +kernel, rfl, rfl⟩
theorem r_12_become_45 : RL M_X12_become 45 2 46 := Or.inl ⟨2, by decide +kernel, rfl, rfl⟩
theorem r_12_become_46 : RC M_X12_become 46 5 47 := ⟨⟨by decide, by decide⟩, Or.inl ⟨by decide +kernel, rfl⟩⟩
theorem r_12_become_47 : RB M_X12_become 47 (.if_icmp .ne) 68 50 := ⟨21, by decide +kernel, rfl, rfl⟩
theorem r_12_become_68 : RL M_X12_become 68 2 69 := Or.inl ⟨2, by decide +kernel, rfl, rfl⟩
theorem r_12_become_69 : RC M_X12_become 69 8 71 := ⟨⟨by decide, by decide⟩, Or.inr (Or.inl ⟨by decide +kernel, by decide, rfl⟩)⟩
theorem r_12_become_71 : RB M_X12_become 71 (.if_icmp .ne) 87 74 := ⟨16, by decide +kernel, rfl, rfl⟩
theorem r_12_become_87 : RL M_X12_become 87 3 88 := Or.inl ⟨3, by decide +kernel, rfl, rfl⟩
theorem r_12_become_88 : RB M_X12_become 88 (.ifCond .ne) 95 91 := ⟨7, by decide +kernel, rfl, rfl⟩
theorem r_12_become_95 : RC M_X12_become 95 0 96 := ⟨⟨by decide, by decide⟩, Or.inl ⟨by decide +kernel, rfl⟩⟩
theorem r_12_become_91 : RC M_X12_become 91 1 92 := ⟨⟨by decide, by decide⟩, Or.inl ⟨by decide +kernel, rfl⟩⟩
theorem r_12_become_92 : RB M_X12_become 92 .goto 96 95 := ⟨4, by decide +kernel, rfl, rfl⟩
theorem r_12_become_74 : RL M_X12_become 74 3 75 := Or.inl ⟨3, by decide +kernel, rfl, rfl⟩
theorem r_12_become_75 : RC M_X12_become 75 4 76 := ⟨⟨by decide, by decide⟩, Or.inl ⟨by decide +kernel, rfl⟩⟩
theorem r_12_become_76 : RB M_X12_become 76 (.if_icmp .gt) 83 79 := ⟨7, by decide +kernel, rfl, rfl⟩
theorem r_12_become_83 : RC M_X12_become 83 0 84 := ⟨⟨by decide, by decide⟩, Or.inl ⟨by decide +kernel, rfl⟩⟩
theorem r_12_become_84 : RB M_X12_become 84 .goto 96 87 := ⟨12, by decide +kernel, rfl, rfl⟩
theorem r_12_become_79 : RC M_X12_become 79 1 80 := ⟨⟨by decide, by decide⟩, Or.inl ⟨by decide +kernel, rfl⟩⟩
theorem r_12_become_80 : RB M_X12_become 80 .goto 96 83 := ⟨16, by decide +kernel, rfl, rfl⟩
theorem r_12_become_50 : RL M_X12_become 50 3 51 := Or.inl ⟨3, by decide +kernel, rfl, rfl⟩
theorem r_12_become_51 : RC M_X12_become 51 3 52 := ⟨⟨by decide, by decide⟩, Or.inl ⟨by decide +kernel, rfl⟩⟩
theorem r_12_become_52 : RB M_X12_become 52 (.if_icmp .eq) 60 55 := ⟨8, by decide +kernel, rfl, rfl⟩
theorem r_12_become_60 : RC M_X12_become 60 1 61 := ⟨⟨by decide, by decide⟩, Or.inl ⟨by decide +kernel, rfl⟩⟩
theorem r_12_become_61 : RB M_X12_become 61 .goto 96 64 := ⟨35, by decide +kernel, rfl, rfl⟩
theorem r_12_become_55 : RL M_X12_become 55 3 56 := Or.inl ⟨3, by decide +kernel, rfl, rfl⟩
theorem r_12_become_56 : RC M_X12_become 56 4 57 := ⟨⟨by decide, by decide⟩, Or.inl ⟨by decide +kernel, rfl⟩⟩
theorem r_12_become_57 : RB M_X12_become 57 (.if_icmp .ne) 64 60 := ⟨7, by decide +kernel, rfl, rfl⟩
theorem r_12_become_64 : RC M_X12_become 64 0 65 := ⟨⟨by decide, by decide⟩, Or.inl ⟨by decide +kernel, rfl⟩⟩
theorem r_12_become_65 : RB M_X12_become 65 .goto 96 68 := ⟨31, by decide +kernel, rfl, rfl⟩
theorem r_12_become_32 : RL M_X12_become 32 3 33 := Or.inl ⟨3, by decide +kernel, rfl, rfl⟩
theorem r_12_become_33 : RC M_X12_become 33 2 34 := ⟨⟨by decide, by decide⟩, Or.inl ⟨by decide +kernel, rfl⟩⟩
theorem r_12_become_34 : RB M_X12_become 34 (.if_icmp .ne) 41 37 := ⟨7, by decide +kernel, rfl, rfl⟩
theorem r_12_become_41 : RC M_X12_become 41 0 42 := ⟨⟨by decide, by decide⟩, Or.inl ⟨by decide +kernel, rfl⟩⟩
theorem r_12_become_42 : RB M_X12_become 42 .goto 96 45 := ⟨54, by decide +kernel, rfl, rfl⟩
theorem r_12_become_37 : RC M_X12_become 37 1 38 := ⟨⟨by decide, by decide⟩, Or.inl ⟨by decide +kernel, rfl⟩⟩
theorem r_12_become_38 : RB M_X12_become 38 .goto 96 41 := ⟨58, by decide +kernel, rfl, rfl⟩
theorem r_12_enters_0 : RA M_X12_enters 0 0 1 := Or.inl ⟨0, by decide +kernel, rfl, rfl⟩
theorem r_12_enters_1 : RG M_X12_enters 1 12 8 4 := ⟨28, _, by decide +kernel, rfl, by decide, wd_f12_28, rfl, rfl⟩
theorem r_12_enters_4 : RL M_X12_enters 4 1 5 := Or.inl ⟨1, by decide +kernel, rfl, rfl⟩
theorem r_12_enters_5 : RC M_X12_enters 5 0 6 := ⟨⟨by decide, by decide⟩, Or.inl ⟨by decide +kernel, rfl⟩⟩
theorem r_12_enters_6 : RW M_X12_enters 6 .iastore 7 1 := ⟨by decide +kernel, rfl⟩
theorem r_12_enters_7 : RA M_X12_enters 7 0 8 := Or.inl ⟨0, by decide +kernel, rfl, rfl⟩
theorem r_12_enters_8 : RG M_X12_enters 8 12 9 11 := ⟨31, _, by decide +kernel, rfl, by decide, wd_f12_31, rfl, rfl⟩
theorem r_12_enters_11 : RL M_X12_enters 11 1 12 := Or.inl ⟨1, by decide +kernel, rfl, rfl⟩
theorem r_12_enters_12 : RL M_X12_enters 12 2 13 := Or.inl ⟨2, by decide +kernel, rfl, rfl⟩
theorem r_12_enters_13 : RW M_X12_enters 13 .iastore 14 1 := ⟨by decide +kernel, rfl⟩
theorem r_12_enters_14 : RA M_X12_enters 14 0 15 := Or.inl ⟨0, by decide +kernel, rfl, rfl⟩
theorem r_12_enters_15 : RG M_X12_enters 15 12 15 18 := ⟨49, _, by decide +kernel, rfl, by decide, wd_f12_49, rfl, rfl⟩
theorem r_12_enters_18 : RL M_X12_enters 18 1 19 := Or.inl ⟨1, by decide +kernel, rfl, rfl⟩
theorem r_12_enters_19 : RA M_X12_enters 19 0 20 := Or.inl ⟨0, by decide +kernel, rfl, rfl⟩
theorem r_12_enters_20 : RG M_X12_enters 20 12 0 23 := ⟨268, _, by decide +kernel, rfl, by decide, wd_f12_268, rfl, rfl⟩
theorem r_12_enters_23 : RW M_X12_enters 23 .iastore 24 1 := ⟨by decide +kernel, rfl⟩
theorem r_12_enters_24 : RA M_X12_enters 24 0 25 := Or.inl ⟨0, by decide +kernel, rfl, rfl⟩
theorem r_12_enters_25 : RG M_X12_enters 25 12 16 28 := ⟨52, _, by decide +kernel, rfl, by decide, wd_f12_52, rfl, rfl⟩
theorem r_12_enters_28 : RL M_X12_enters 28 1 29 := Or.inl ⟨1, by decide +kernel, rfl, rfl⟩
theorem r_12_enters_29 : RC M_X12_enters 29 (-1) 30 := ⟨⟨by decide, by decide⟩, Or.inl ⟨by decide +kernel, rfl⟩⟩
theorem r_12_enters_30 : RW M_X12_enters 30 .iastore 31 1 := ⟨by decide +kernel, rfl⟩
theorem r_12_enters_31 : RA M_X12_enters 31 0 32 := Or.inl ⟨0, by decide +kernel, rfl, rfl⟩
theorem r_12_enters_32 : RG M_X12_enters 32 12 18 35 := ⟨55, _, by decide +kernel, rfl, by decide, wd_f12_55, rfl, rfl⟩
theorem r_12_enters_35 : RA M_X12_enters 35 0 36 := Or.inl ⟨0, by decide +kernel, rfl, rfl⟩
theorem r_12_enters_36 : RG M_X12_enters 36 12 22 39 := ⟨265, _, by decide +kernel, rfl, by decide, wd_f12_265, rfl, rfl⟩
theorem r_12_enters_39 : RL M_X12_enters 39 1 40 := Or.inl ⟨1, by decide +kernel, rfl, rfl⟩
theorem r_12_enters_40 : RW M_X12_enters 40 .iastore 41 1 := ⟨by decide +kernel, rfl⟩
theorem r_12_enters_41 : RA M_X12_enters 41 0 42 := Or.inl ⟨0, by decide +kernel, rfl, rfl⟩
theorem r_12_enters_42 : RG M_X12_enters 42 12 19 45 := ⟨58, _, by decide +kernel, rfl, by decide, wd_f12_58, rfl, rfl⟩
theorem r_12_enters_45 : RA M_X12_enters 45 0 46 := Or.inl ⟨0, by decide +kernel, rfl, rfl⟩
theorem r_12_enters_46 : RG M_X12_enters 46 12 22 49 := ⟨265, _, by decide +kernel, rfl, by decide, wd_f12_265, rfl, rfl⟩
theorem r_12_enters_49 : RL M_X12_enters 49 2 50 := Or.inl ⟨2, by decide +kernel, rfl, rfl⟩
theorem r_12_enters_50 : RW M_X12_enters 50 .iastore 51 1 := ⟨by decide +kernel, rfl⟩
theorem r_12_enters_51 : RA M_X12_enters 51 0 52 := Or.inl ⟨0, by decide +kernel, rfl, rfl⟩
theorem r_12_enters_52 : RG M_X12_enters 52 12 20 55 := ⟨61, _, by decide +kernel, rfl, by decide, wd_f12_61, rfl, rfl⟩
theorem r_12_enters_55 : RA M_X12_enters 55 0 56 := Or.inl ⟨0, by decide +kernel, rfl, rfl⟩
theorem r_12_enters_56 : RG M_X12_enters 56 12 22 59 := ⟨265, _, by decide +kernel, rfl, by decide, wd_f12_265, rfl, rfl⟩
theorem r_12_enters_59 : RA M_X12_enters 59 0 60 := Or.inl ⟨0, by decide +kernel, rfl, rfl⟩
theorem r_12_enters_60 : RG M_X12_enters 60 12 0 63 := ⟨268, _, by decide +kernel, rfl, by decide, wd_f12_268, rfl, rfl⟩
theorem r_12_enters_63 : RW M_X12_enters 63 .iastore 64 1 := ⟨by decide +kernel, rfl⟩
theorem r_12_enters_64 : RA M_X12_enters 64 0 65 := Or.inl ⟨0, by decide +kernel, rfl, rfl⟩
theorem r_12_enters_65 : RG M_X12_enters 65 12 21 68 := ⟨64, _, by decide +kernel, rfl, by decide, wd_f12_64, rfl, rfl⟩
theorem r_12_enters_68 : RA M_X12_enters 68 0 69 := Or.inl ⟨0, by decide +kernel, rfl, rfl⟩
theorem r_12_enters_69 : RG M_X12_enters 69 12 22 72 := ⟨265, _, by decide +kernel, rfl, by decide, wd_f12_265, rfl, rfl⟩
theorem r_12_enters_72 : RC M_X12_enters 72 (-1) 73 := ⟨⟨by decide, by decide⟩, Or.inl ⟨by decide +kernel, rfl⟩⟩
theorem r_12_enters_73 : RW M_X12_enters 73 .iastore 74 1 := ⟨by decide +kernel, rfl⟩
theorem r_12_enters_74 : RA M_X12_enters 74 0 75 := Or.inl ⟨0, by decide +kernel, rfl, rfl⟩
theorem r_12_enters_75 : RW M_X12_enters 75 .dup 76 1 := ⟨by decide +kernel, rfl⟩
theorem r_12_enters_76 : RG M_X12_enters 76 12 22 79 := ⟨265, _, by decide +kernel, rfl, by decide, wd_f12_265, rfl, rfl⟩
theorem r_12_enters_79 : RC M_X12_enters 79 1 80 := ⟨⟨by decide, by decide⟩, Or.inl ⟨by decide +kernel, rfl⟩⟩
theorem r_12_enters_80 : RW M_X12_enters 80 .iadd 81 1 := ⟨by decide +kernel, rfl⟩
theorem r_12_enters_81 : RP M_X12_enters 81 12 22 84 := ⟨265, _, by decide +kernel, rfl, by decide, wd_f12_265, rfl, Or.inl rfl, rfl⟩
theorem r_12_enters_84 : RW M_X12_enters 84 .return_ 85 1 := ⟨by decide +kernel, rfl⟩
theorem r_1_tell_0 : RA M_X1_tell 0 0 1 := Or.inl ⟨0, by decide +kernel, rfl, rfl⟩
theorem r_1_tell_1 : RL M_X1_tell 1 1 2 := Or.inl ⟨1, by decide +kernel, rfl, rfl⟩
theorem r_1_tell_2 : RKv M_X1_tell M_X1_get 2 1 1 5 := ⟨125, by decide +kernel, wd_m1_125, ok_M_X1_get, wd_s1_get, rfl⟩
theorem r_1_tell_5 : RT M_X1_tell 5 3 6 := ⟨by decide, Or.inl ⟨3, by decide +kernel, rfl, rfl⟩⟩
theorem r_1_tell_6 : RA M_X1_tell 6 3 7 := Or.inl ⟨3, by decide +kernel, rfl, rfl⟩
theorem r_1_tell_7 : RB M_X1_tell 7 .ifnonnull 13 10 := ⟨6, by decide +kernel, rfl, rfl⟩
theorem r_1_tell_10 : RC M_X1_tell 10 (-2000000000) 12 := ⟨⟨by decide, by decide⟩, Or.inr (Or.inr (Or.inr (Or.inl ⟨148, by decide +kernel, wd_c1_148, rfl⟩)))⟩
theorem r_1_tell_12 : RW M_X1_tell 12 .ireturn 13 1 := ⟨by decide +kernel, rfl⟩
theorem r_1_tell_13 : RL M_X1_tell 13 2 14 := Or.inl ⟨2, by decide +kernel, rfl, rfl⟩
theorem r_1_tell_14 : RTS M_X1_tell 14 [(0, 72), (1, 77), (2, 82), (3, 87), (4, 92), (5, 97), (6, 102), (7, 107), (8, 112), (9, 117), (10, 123)] 128 := ⟨114, 0, 10, #[58, 63, 68, 73, 78, 83, 88, 93, 98, 103, 109], 58, by decide +kernel, by decide, rfl, by decide⟩
theorem r_1_tell_72 : RA M_X1_tell 72 3 73 := Or.inl ⟨3, by decide +kernel, rfl, rfl⟩
theorem r_1_tell_73 : RG M_X1_tell 73 3 1 76 := ⟨149, _, by decide +kernel, rfl, by decide, wd_f1_149, rfl, rfl⟩
theorem r_1_tell_76 : RW M_X1_tell 76 .ireturn 77 1 := ⟨by decide +kernel, rfl⟩
theorem r_1_tell_77 : RA M_X1_tell 77 3 78 := Or.inl ⟨3, by decide +kernel, rfl, rfl⟩
theorem r_1_tell_78 : RG M_X1_tell 78 3 2 81 := ⟨129, _, by decide +kernel, rfl, by decide, wd_f1_129, rfl, rfl⟩
theorem r_1_tell_81 : RW M_X1_tell 81 .ireturn 82 1 := ⟨by decide +kernel, rfl⟩
theorem r_1_tell_82 : RA M_X1_tell 82 3 83 := Or.inl ⟨3, by decide +kernel, rfl, rfl⟩
theorem r_1_tell_83 : RG M_X1_tell 83 3 8 86 := ⟨70, _, by decide +kernel, rfl, by decide, wd_f1_70, rfl, rfl⟩
theorem r_1_tell_86 : RW M_X1_tell 86 .ireturn 87 1 := ⟨by decide +kernel, rfl⟩
theorem r_1_tell_87 : RA M_X1_tell 87 3 88 := Or.inl ⟨3, by decide +kernel, rfl, rfl⟩
theorem r_1_tell_88 : RG M_X1_tell 88 3 10 91 := ⟨76, _, by decide +kernel, rfl, by decide, wd_f1_76, rfl, rfl⟩
theorem r_1_tell_91 : RW M_X1_tell 91 .ireturn 92 1 := ⟨by decide +kernel, rfl⟩
theorem r_1_tell_92 : RA M_X1_tell 92 3 93 := Or.inl ⟨3, by decide +kernel, rfl, rfl⟩
theorem r_1_tell_93 : RG M_X1_tell 93 3 3 96 := ⟨152, _, by decide +kernel, rfl, by decide, wd_f1_152, rfl, rfl⟩
theorem r_1_tell_96 : RW M_X1_tell 96 .ireturn 97 1 := ⟨by decide +kernel, rfl⟩
theorem r_1_tell_97 : RA M_X1_tell 97 3 98 := Or.inl ⟨3, by decide +kernel, rfl, rfl⟩
theorem r_1_tell_98 : RG M_X1_tell 98 3 4 101 := ⟨155, _, by decide +kernel, rfl, by decide, wd_f1_155, rfl, rfl⟩
theorem r_1_tell_101 : RW M_X1_tell 101 .ireturn 102 1 := ⟨by decide +kernel, rfl⟩
theorem r_1_tell_102 : RA M_X1_tell 102 3 103 := Or.inl ⟨3, by decide +kernel, rfl, rfl⟩
theorem r_1_tell_103 : RG M_X1_tell 103 3 6 106 := ⟨88, _, by decide +kernel, rfl, by decide, wd_f1_88, rfl, rfl⟩
theorem r_1_tell_106 : RW M_X1_tell 106 .ireturn 107 1 := ⟨by decide +kernel, rfl⟩
theorem r_1_tell_107 : RA M_X1_tell 107 3 108 := Or.inl ⟨3, by decide +kernel, rfl, rfl⟩
theorem r_1_tell_108 : RG M_X1_tell 108 3 5 111 := ⟨158, _, by decide +kernel, rfl, by decide, wd_f1_158, rfl, rfl⟩
theorem r_1_tell_111 : RW M_X1_tell 111 .ireturn 112 1 := ⟨by decide +kernel, rfl⟩
theorem r_1_tell_112 : RA M_X1_tell 112 3 113 := Or.inl ⟨3, by decide +kernel, rfl, rfl⟩
theorem r_1_tell_113 : RG M_X1_tell 113 3 9 116 := ⟨161, _, by decide +kernel, rfl, by decide, wd_f1_161, rfl, rfl⟩
theorem r_1_tell_116 : RW M_X1_tell 116 .ireturn 117 1 := ⟨by decide +kernel, rfl⟩
theorem r_1_tell_117 : RA M_X1_tell 117 0 118 := Or.inl ⟨0, by decide +kernel, rfl, rfl⟩
theorem r_1_tell_118 : RL M_X1_tell 118 1 119 := Or.inl ⟨1, by decide +kernel, rfl, rfl⟩
theorem r_1_tell_119 : RKv M_X1_tell M_X1_countStays 119 1 1 122 := ⟨164, by decide +kernel, wd_m1_164, ok_M_X1_countStays, wd_s1_countStays, rfl⟩
theorem r_1_tell_122 : RW M_X1_tell 122 .ireturn 123 1 := ⟨by decide +kernel, rfl⟩
theorem r_1_tell_123 : RA M_X1_tell 123 3 124 := Or.inl ⟨3, by decide +kernel, rfl, rfl⟩
theorem r_1_tell_124 : RG M_X1_tell 124 3 11 127 := ⟨73, _, by decide +kernel, rfl, by decide, wd_f1_73, rfl, rfl⟩
theorem r_1_tell_127 : RW M_X1_tell 127 .ireturn 128 1 := ⟨by decide +kernel, rfl⟩
theorem r_1_tell_128 : RC M_X1_tell 128 (-2000000000) 130 := ⟨⟨by decide, by decide⟩, Or.inr (Or.inr (Or.inr (Or.inl ⟨148, by decide +kernel, wd_c1_148, rfl⟩)))⟩
theorem r_1_tell_130 : RW M_X1_tell 130 .ireturn 131 1 := ⟨by decide +kernel, rfl⟩
theorem r_12_of_0 : RA M_X12_of 0 0 1 := Or.inl ⟨0, by decide +kernel, rfl, rfl⟩
theorem r_12_of_1 : RL M_X12_of 1 1 2 := Or.inl ⟨1, by decide +kernel, rfl, rfl⟩
theorem r_12_of_2 : RKv M_X12_of M_X12_isPerson 2 1 12 5 := ⟨278, by decide +kernel, wd_m12_278, ok_M_X12_isPerson, wd_s12_isPerson, rfl⟩
theorem r_12_of_5 : RB M_X12_of 5 (.ifCond .ne) 12 8 := ⟨7, by decide +kernel, rfl, rfl⟩
theorem r_12_of_12 : RL M_X12_of 12 2 13 := Or.inl ⟨2, by decide +kernel, rfl, rfl⟩
theorem r_12_of_13 : RTS M_X12_of 13 [(0, 72), (1, 79), (2, 86), (3, 93), (4, 114), (5, 121), (6, 128), (7, 135), (8, 142), (9, 149), (10, 155)] 176 := ⟨163, 0, 10, #[59, 66, 73, 80, 101, 108, 115, 122, 129, 136, 142], 59, by decide +kernel, by decide, rfl, by decide⟩
theorem r_12_of_72 : RA M_X12_of 72 0 73 := Or.inl ⟨0, by decide +kernel, rfl, rfl⟩
theorem r_12_of_73 : RG M_X12_of 73 12 6 76 := ⟨22, _, by decide +kernel, rfl, by decide, wd_f12_22, rfl, rfl⟩
theorem r_12_of_76 : RL M_X12_of 76 1 77 := Or.inl ⟨1, by decide +kernel, rfl, rfl⟩
theorem r_12_of_77 : RW M_X12_of 77 .iaload 78 1 := ⟨by decide +kernel, rfl⟩
theorem r_12_of_78 : RW M_X12_of 78 .ireturn 79 1 := ⟨by decide +kernel, rfl⟩
theorem r_12_of_79 : RA M_X12_of 79 0 80 := Or.inl ⟨0, by decide +kernel, rfl, rfl⟩
theorem r_12_of_80 : RG M_X12_of 80 12 7 83 := ⟨25, _, by decide +kernel, rfl, by decide, wd_f12_25, rfl, rfl⟩
theorem r_12_of_83 : RL M_X12_of 83 1 84 := Or.inl ⟨1, by decide +kernel, rfl, rfl⟩
theorem r_12_of_84 : RW M_X12_of 84 .iaload 85 1 := ⟨by decide +kernel, rfl⟩
theorem r_12_of_85 : RW M_X12_of 85 .ireturn 86 1 := ⟨by decide +kernel, rfl⟩
theorem r_12_of_86 : RA M_X12_of 86 0 87 := Or.inl ⟨0, by decide +kernel, rfl, rfl⟩
theorem r_12_of_87 : RG M_X12_of 87 12 8 90 := ⟨28, _, by decide +kernel, rfl, by decide, wd_f12_28, rfl, rfl⟩
theorem r_12_of_90 : RL M_X12_of 90 1 91 := Or.inl ⟨1, by decide +kernel, rfl, rfl⟩
theorem r_12_of_91 : RW M_X12_of 91 .iaload 92 1 := ⟨by decide +kernel, rfl⟩
theorem r_12_of_92 : RW M_X12_of 92 .ireturn 93 1 := ⟨by decide +kernel, rfl⟩
theorem r_12_of_93 : RA M_X12_of 93 0 94 := Or.inl ⟨0, by decide +kernel, rfl, rfl⟩
theorem r_12_of_94 : RG M_X12_of 94 12 8 97 := ⟨28, _, by decide +kernel, rfl, by decide, wd_f12_28, rfl, rfl⟩
theorem r_12_of_97 : RL M_X12_of 97 1 98 := Or.inl ⟨1, by decide +kernel, rfl, rfl⟩
theorem r_12_of_98 : RW M_X12_of 98 .iaload 99 1 := ⟨by decide +kernel, rfl⟩
theorem r_12_of_99 : RC M_X12_of 99 1 100 := ⟨⟨by decide, by decide⟩, Or.inl ⟨by decide +kernel, rfl⟩⟩
theorem r_12_of_100 : RB M_X12_of 100 (.if_icmp .gt) 112 103 := ⟨12, by decide +kernel, rfl, rfl⟩
theorem r_12_of_112 : RC M_X12_of 112 (-1) 113 := ⟨⟨by decide, by decide⟩, Or.inl ⟨by decide +kernel, rfl⟩⟩
theorem r_12_of_113 : RW M_X12_of 113 .ireturn 114 1 := ⟨by decide +kernel, rfl⟩
theorem r_12_of_103 : RA M_X12_of 103 0 104 := Or.inl ⟨0, by decide +kernel, rfl, rfl⟩
theorem r_12_of_104 : RG M_X12_of 104 12 9 107 := ⟨31, _, by decide +kernel, rfl, by decide, wd_f12_31, rfl, rfl⟩
theorem r_12_of_107 : RL M_X12_of 107 1 108 := Or.inl ⟨1, by decide +kernel, rfl, rfl⟩
theorem r_12_of_108 : RW M_X12_of 108 .iaload 109 1 := ⟨by decide +kernel, rfl⟩
theorem r_12_of_109 : RB M_X12_of 109 .goto 113 112 := ⟨4, by decide +kernel, rfl, rfl⟩
theorem r_12_of_114 : RA M_X12_of 114 0 115 := Or.inl ⟨0, by decide +kernel, rfl, rfl⟩
theorem r_12_of_115 : RG M_X12_of 115 12 10 118 := ⟨34, _, by decide +kernel, rfl, by decide, wd_f12_34, rfl, rfl⟩
theorem r_12_of_118 : RL M_X12_of 118 1 119 := Or.inl ⟨1, by decide +kernel, rfl, rfl⟩
theorem r_12_of_119 : RW M_X12_of 119 .iaload 120 1 := ⟨by decide +kernel, rfl⟩
theorem r_12_of_120 : RW M_X12_of 120 .ireturn 121 1 := ⟨by decide +kernel, rfl⟩
theorem r_12_of_121 : RA M_X12_of 121 0 122 := Or.inl ⟨0, by decide +kernel, rfl, rfl⟩
theorem r_12_of_122 : RG M_X12_of 122 12 11 125 := ⟨37, _, by decide +kernel, rfl, by decide, wd_f12_37, rfl, rfl⟩
theorem r_12_of_125 : RL M_X12_of 125 1 126 := Or.inl ⟨1, by decide +kernel, rfl, rfl⟩
theorem r_12_of_126 : RW M_X12_of 126 .iaload 127 1 := ⟨by decide +kernel, rfl⟩
theorem r_12_of_127 : RW M_X12_of 127 .ireturn 128 1 := ⟨by decide +kernel, rfl⟩
theorem r_12_of_128 : RA M_X12_of 128 0 129 := Or.inl ⟨0, by decide +kernel, rfl, rfl⟩
theorem r_12_of_129 : RG M_X12_of 129 12 12 132 := ⟨40, _, by decide +kernel, rfl, by decide, wd_f12_40, rfl, rfl⟩
theorem r_12_of_132 : RL M_X12_of 132 1 133 := Or.inl ⟨1, by decide +kernel, rfl, rfl⟩
theorem r_12_of_133 : RW M_X12_of 133 .iaload 134 1 := ⟨by decide +kernel, rfl⟩
theorem r_12_of_134 : RW M_X12_of 134 .ireturn 135 1 := ⟨by decide +kernel, rfl⟩
theorem r_12_of_135 : RA M_X12_of 135 0 136 := Or.inl ⟨0, by decide +kernel, rfl, rfl⟩
theorem r_12_of_136 : RG M_X12_of 136 12 14 139 := ⟨46, _, by decide +kernel, rfl, by decide, wd_f12_46, rfl, rfl⟩
theorem r_12_of_139 : RL M_X12_of 139 1 140 := Or.inl ⟨1, by decide +kernel, rfl, rfl⟩
theorem r_12_of_140 : RW M_X12_of 140 .iaload 141 1 := ⟨by decide +kernel, rfl⟩
theorem r_12_of_141 : RW M_X12_of 141 .ireturn 142 1 := ⟨by decide +kernel, rfl⟩
theorem r_12_of_142 : RA M_X12_of 142 0 143 := Or.inl ⟨0, by decide +kernel, rfl, rfl⟩
theorem r_12_of_143 : RG M_X12_of 143 12 15 146 := ⟨49, _, by decide +kernel, rfl, by decide, wd_f12_49, rfl, rfl⟩
theorem r_12_of_146 : RL M_X12_of 146 1 147 := Or.inl ⟨1, by decide +kernel, rfl, rfl⟩
theorem r_12_of_147 : RW M_X12_of 147 .iaload 148 1 := ⟨by decide +kernel, rfl⟩
theorem r_12_of_148 : RW M_X12_of 148 .ireturn 149 1 := ⟨by decide +kernel, rfl⟩
theorem r_12_of_149 : RA M_X12_of 149 0 150 := Or.inl ⟨0, by decide +kernel, rfl, rfl⟩
theorem r_12_of_150 : RL M_X12_of 150 1 151 := Or.inl ⟨1, by decide +kernel, rfl, rfl⟩
theorem r_12_of_151 : RKv M_X12_of M_X12_staysOf 151 1 12 154 := ⟨290, by decide +kernel, wd_m12_290, ok_M_X12_staysOf, wd_s12_staysOf, rfl⟩
theorem r_12_of_154 : RW M_X12_of 154 .ireturn 155 1 := ⟨by decide +kernel, rfl⟩
theorem r_12_of_155 : RA M_X12_of 155 0 156 := Or.inl ⟨0, by decide +kernel, rfl, rfl⟩
theorem r_12_of_156 : RG M_X12_of 156 12 8 159 := ⟨28, _, by decide +kernel, rfl, by decide, wd_f12_28, rfl, rfl⟩
theorem r_12_of_159 : RL M_X12_of 159 1 160 := Or.inl ⟨1, by decide +kernel, rfl, rfl⟩
theorem r_12_of_160 : RW M_X12_of 160 .iaload 161 1 := ⟨by decide +kernel, rfl⟩
theorem r_12_of_161 : RC M_X12_of 161 1 162 := ⟨⟨by decide, by decide⟩, Or.inl ⟨by decide +kernel, rfl⟩⟩
theorem r_12_of_162 : RB M_X12_of 162 (.if_icmp .ne) 174 165 := ⟨12, by decide +kernel, rfl, rfl⟩
theorem r_12_of_174 : RC M_X12_of 174 (-1) 175 := ⟨⟨by decide, by decide⟩, Or.inl ⟨by decide +kernel, rfl⟩⟩
theorem r_12_of_175 : RW M_X12_of 175 .ireturn 176 1 := ⟨by decide +kernel, rfl⟩
theorem r_12_of_165 : RA M_X12_of 165 0 166 := Or.inl ⟨0, by decide +kernel, rfl, rfl⟩
theorem r_12_of_166 : RG M_X12_of 166 12 16 169 := ⟨52, _, by decide +kernel, rfl, by decide, wd_f12_52, rfl, rfl⟩
theorem r_12_of_169 : RL M_X12_of 169 1 170 := Or.inl ⟨1, by decide +kernel, rfl, rfl⟩
theorem r_12_of_170 : RW M_X12_of 170 .iaload 171 1 := ⟨by decide +kernel, rfl⟩
theorem r_12_of_171 : RB M_X12_of 171 .goto 175 174 := ⟨4, by decide +kernel, rfl, rfl⟩
theorem r_12_of_176 : RC M_X12_of 176 (-2000000000) 179 := ⟨⟨by decide, by decide⟩, Or.inr (Or.inr (Or.inr (Or.inr ⟨289, by decide +kernel, wd_c12_289, rfl⟩)))⟩
theorem r_12_of_179 : RW M_X12_of 179 .ireturn 180 1 := ⟨by decide +kernel, rfl⟩
theorem r_12_of_8 : RC M_X12_of 8 (-2000000000) 11 := ⟨⟨by decide, by decide⟩, Or.inr (Or.inr (Or.inr (Or.inr ⟨289, by decide +kernel, wd_c12_289, rfl⟩)))⟩
theorem r_12_of_11 : RW M_X12_of 11 .ireturn 12 1 := ⟨by decide +kernel, rfl⟩
theorem r_1_tellStay_0 : RL M_X1_tellStay 0 2 1 := Or.inl ⟨2, by decide +kernel, rfl, rfl⟩
theorem r_1_tellStay_1 : RS M_X1_tellStay 1 4 3 := ⟨by decide, Or.inr ⟨by decide +kernel, rfl⟩⟩
theorem r_1_tellStay_3 : RC M_X1_tellStay 3 0 4 := ⟨⟨by decide, by decide⟩, Or.inl ⟨by decide +kernel, rfl⟩⟩
theorem r_1_tellStay_4 : RS M_X1_tellStay 4 5 6 := ⟨by decide, Or.inr ⟨by decide +kernel, rfl⟩⟩
theorem r_1_tellStay_6 : RL M_X1_tellStay 6 5 8 := Or.inr ⟨by decide +kernel, rfl⟩
theorem r_1_tellStay_8 : RA M_X1_tellStay 8 0 9 := Or.inl ⟨0, by decide +kernel, rfl, rfl⟩
theorem r_1_tellStay_9 : RG M_X1_tellStay 9 1 3 12 := ⟨135, _, by decide +kernel, rfl, by decide, wd_f1_135, rfl, rfl⟩
theorem r_1_tellStay_12 : RB M_X1_tellStay 12 (.if_icmp .ge) 104 15 := ⟨92, by decide +kernel, rfl, rfl⟩
theorem r_1_tellStay_104 : RC M_X1_tellStay 104 (-2000000000) 106 := ⟨⟨by decide, by decide⟩, Or.inr (Or.inr (Or.inr (Or.inl ⟨148, by decide +kernel, wd_c1_148, rfl⟩)))⟩
theorem r_1_tellStay_106 : RW M_X1_tellStay 106 .ireturn 107 1 := ⟨by decide +kernel, rfl⟩
theorem r_1_tellStay_15 : RL M_X1_tellStay 15 4 17 := Or.inr ⟨by decide +kernel, rfl⟩
theorem r_1_tellStay_17 : RB M_X1_tellStay 17 (.ifCond .lt) 104 20 := ⟨87, by decide +kernel, rfl, rfl⟩
theorem r_1_tellStay_20 : RA M_X1_tellStay 20 0 21 := Or.inl ⟨0, by decide +kernel, rfl, rfl⟩
theorem r_1_tellStay_21 : RG M_X1_tellStay 21 1 6 24 := ⟨21, _, by decide +kernel, rfl, by decide, wd_f1_21, rfl, rfl⟩
theorem r_1_tellStay_24 : RL M_X1_tellStay 24 5 26 := Or.inr ⟨by decide +kernel, rfl⟩
theorem r_1_tellStay_26 : RW M_X1_tellStay 26 .iaload 27 1 := ⟨by decide +kernel, rfl⟩
theorem r_1_tellStay_27 : RL M_X1_tellStay 27 1 28 := Or.inl ⟨1, by decide +kernel, rfl, rfl⟩
theorem r_1_tellStay_28 : RB M_X1_tellStay 28 (.if_icmp .eq) 34 31 := ⟨6, by decide +kernel, rfl, rfl⟩
theorem r_1_tellStay_34 : RL M_X1_tellStay 34 4 36 := Or.inr ⟨by decide +kernel, rfl⟩
theorem r_1_tellStay_36 : RB M_X1_tellStay 36 (.ifCond .ne) 95 39 := ⟨59, by decide +kernel, rfl, rfl⟩
theorem r_1_tellStay_95 : RI M_X1_tellStay 95 4 (-1) 98 := ⟨by decide, by decide +kernel, rfl⟩
theorem r_1_tellStay_98 : RI M_X1_tellStay 98 5 1 101 := ⟨by decide, by decide +kernel, rfl⟩
theorem r_1_tellStay_101 : RB M_X1_tellStay 101 .goto 6 104 := ⟨(-95), by decide +kernel, rfl, rfl⟩
theorem r_1_tellStay_39 : RL M_X1_tellStay 39 3 40 := Or.inl ⟨3, by decide +kernel, rfl, rfl⟩
theorem r_1_tellStay_40 : RTS M_X1_tellStay 40 [(0, 68), (1, 76), (2, 84)] 92 := ⟨52, 0, 2, #[28, 36, 44], 28, by decide +kernel, by decide, rfl, by decide⟩
theorem r_1_tellStay_68 : RA M_X1_tellStay 68 0 69 := Or.inl ⟨0, by decide +kernel, rfl, rfl⟩
theorem r_1_tellStay_69 : RG M_X1_tellStay 69 1 7 72 := ⟨24, _, by decide +kernel, rfl, by decide, wd_f1_24, rfl, rfl⟩
theorem r_1_tellStay_72 : RL M_X1_tellStay 72 5 74 := Or.inr ⟨by decide +kernel, rfl⟩
theorem r_1_tellStay_74 : RW M_X1_tellStay 74 .iaload 75 1 := ⟨by decide +kernel, rfl⟩
theorem r_1_tellStay_75 : RW M_X1_tellStay 75 .ireturn 76 1 := ⟨by decide +kernel, rfl⟩
theorem r_1_tellStay_76 : RA M_X1_tellStay 76 0 77 := Or.inl ⟨0, by decide +kernel, rfl, rfl⟩
theorem r_1_tellStay_77 : RG M_X1_tellStay 77 1 8 80 := ⟨27, _, by decide +kernel, rfl, by decide, wd_f1_27, rfl, rfl⟩
theorem r_1_tellStay_80 : RL M_X1_tellStay 80 5 82 := Or.inr ⟨by decide +kernel, rfl⟩
theorem r_1_tellStay_82 : RW M_X1_tellStay 82 .iaload 83 1 := ⟨by decide +kernel, rfl⟩
theorem r_1_tellStay_83 : RW M_X1_tellStay 83 .ireturn 84 1 := ⟨by decide +kernel, rfl⟩
theorem r_1_tellStay_84 : RA M_X1_tellStay 84 0 85 := Or.inl ⟨0, by decide +kernel, rfl, rfl⟩
theorem r_1_tellStay_85 : RG M_X1_tellStay 85 1 9 88 := ⟨30, _, by decide +kernel, rfl, by decide, wd_f1_30, rfl, rfl⟩
theorem r_1_tellStay_88 : RL M_X1_tellStay 88 5 90 := Or.inr ⟨by decide +kernel, rfl⟩
theorem r_1_tellStay_90 : RW M_X1_tellStay 90 .iaload 91 1 := ⟨by decide +kernel, rfl⟩
theorem r_1_tellStay_91 : RW M_X1_tellStay 91 .ireturn 92 1 := ⟨by decide +kernel, rfl⟩
theorem r_1_tellStay_92 : RC M_X1_tellStay 92 (-2000000000) 94 := ⟨⟨by decide, by decide⟩, Or.inr (Or.inr (Or.inr (Or.inl ⟨148, by decide +kernel, wd_c1_148, rfl⟩)))⟩
theorem r_1_tellStay_94 : RW M_X1_tellStay 94 .ireturn 95 1 := ⟨by decide +kernel, rfl⟩
theorem r_1_tellStay_31 : RB M_X1_tellStay 31 .goto 98 34 := ⟨67, by decide +kernel, rfl, rfl⟩
theorem r_12_stay_0 : RA M_X12_stay 0 0 1 := Or.inl ⟨0, by decide +kernel, rfl, rfl⟩
theorem r_12_stay_1 : RL M_X12_stay 1 1 2 := Or.inl ⟨1, by decide +kernel, rfl, rfl⟩
theorem r_12_stay_2 : RKv M_X12_stay M_X12_isPerson 2 1 12 5 := ⟨278, by decide +kernel, wd_m12_278, ok_M_X12_isPerson, wd_s12_isPerson, rfl⟩
theorem r_12_stay_5 : RB M_X12_stay 5 (.ifCond .eq) 21 8 := ⟨16, by decide +kernel, rfl, rfl⟩
theorem r_12_stay_21 : RC M_X12_stay 21 (-2000000000) 24 := ⟨⟨by decide, by decide⟩, Or.inr (Or.inr (Or.inr (Or.inr ⟨289, by decide +kernel, wd_c12_289, rfl⟩)))⟩
theorem r_12_stay_24 : RW M_X12_stay 24 .ireturn 25 1 := ⟨by decide +kernel, rfl⟩
theorem r_12_stay_8 : RL M_X12_stay 8 2 9 := Or.inl ⟨2, by decide +kernel, rfl, rfl⟩
theorem r_12_stay_9 : RB M_X12_stay 9 (.ifCond .lt) 21 12 := ⟨12, by decide +kernel, rfl, rfl⟩
theorem r_12_stay_12 : RL M_X12_stay 12 3 13 := Or.inl ⟨3, by decide +kernel, rfl, rfl⟩
theorem r_12_stay_13 : RC M_X12_stay 13 0 14 := ⟨⟨by decide, by decide⟩, Or.inl ⟨by decide +kernel, rfl⟩⟩
theorem r_12_stay_14 : RC M_X12_stay 14 2 15 := ⟨⟨by decide, by decide⟩, Or.inl ⟨by decide +kernel, rfl⟩⟩
theorem r_12_stay_15 : RKs M_X12_stay M_X12_within 15 3 18 := ⟨240, by decide +kernel, Or.inl wd_m12_240, ok_M_X12_within, rfl⟩
theorem r_12_stay_18 : RB M_X12_stay 18 (.ifCond .ne) 25 21 := ⟨7, by decide +kernel, rfl, rfl⟩
theorem r_12_stay_25 : RL M_X12_stay 25 2 26 := Or.inl ⟨2, by decide +kernel, rfl, rfl⟩
theorem r_12_stay_26 : RS M_X12_stay 26 4 28 := ⟨by decide, Or.inr ⟨by decide +kernel, rfl⟩⟩
theorem r_12_stay_28 : RC M_X12_stay 28 0 29 := ⟨⟨by decide, by decide⟩, Or.inl ⟨by decide +kernel, rfl⟩⟩
theorem r_12_stay_29 : RS M_X12_stay 29 5 31 := ⟨by decide, Or.inr ⟨by decide +kernel, rfl⟩⟩
theorem r_12_stay_31 : RL M_X12_stay 31 5 33 := Or.inr ⟨by decide +kernel, rfl⟩
theorem r_12_stay_33 : RA M_X12_stay 33 0 34 := Or.inl ⟨0, by decide +kernel, rfl, rfl⟩
theorem r_12_stay_34 : RG M_X12_stay 34 12 22 37 := ⟨265, _, by decide +kernel, rfl, by decide, wd_f12_265, rfl, rfl⟩
theorem r_12_stay_37 : RB M_X12_stay 37 (.if_icmp .ge) 102 40 := ⟨65, by decide +kernel, rfl, rfl⟩
theorem r_12_stay_102 : RC M_X12_stay 102 (-2000000000) 105 := ⟨⟨by decide, by decide⟩, Or.inr (Or.inr (Or.inr (Or.inr ⟨289, by decide +kernel, wd_c12_289, rfl⟩)))⟩
theorem r_12_stay_105 : RW M_X12_stay 105 .ireturn 106 1 := ⟨by decide +kernel, rfl⟩
theorem r_12_stay_40 : RA M_X12_stay 40 0 41 := Or.inl ⟨0, by decide +kernel, rfl, rfl⟩
theorem r_12_stay_41 : RG M_X12_stay 41 12 18 44 := ⟨55, _, by decide +kernel, rfl, by decide, wd_f12_55, rfl, rfl⟩
theorem r_12_stay_44 : RL M_X12_stay 44 5 46 := Or.inr ⟨by decide +kernel, rfl⟩
theorem r_12_stay_46 : RW M_X12_stay 46 .iaload 47 1 := ⟨by decide +kernel, rfl⟩
theorem r_12_stay_47 : RL M_X12_stay 47 1 48 := Or.inl ⟨1, by decide +kernel, rfl, rfl⟩
theorem r_12_stay_48 : RB M_X12_stay 48 (.if_icmp .ne) 96 51 := ⟨48, by decide +kernel, rfl, rfl⟩
theorem r_12_stay_96 : RI M_X12_stay 96 5 1 99 := ⟨by decide, by decide +kernel, rfl⟩
theorem r_12_stay_99 : RB M_X12_stay 99 .goto 31 102 := ⟨(-68), by decide +kernel, rfl, rfl⟩
theorem r_12_stay_51 : RL M_X12_stay 51 4 53 := Or.inr ⟨by decide +kernel, rfl⟩
theorem r_12_stay_53 : RB M_X12_stay 53 (.ifCond .ne) 93 56 := ⟨40, by decide +kernel, rfl, rfl⟩
theorem r_12_stay_93 : RI M_X12_stay 93 4 (-1) 96 := ⟨by decide, by decide +kernel, rfl⟩
theorem r_12_stay_56 : RL M_X12_stay 56 3 57 := Or.inl ⟨3, by decide +kernel, rfl, rfl⟩
theorem r_12_stay_57 : RB M_X12_stay 57 (.ifCond .ne) 70 60 := ⟨13, by decide +kernel, rfl, rfl⟩
theorem r_12_stay_70 : RL M_X12_stay 70 3 71 := Or.inl ⟨3, by decide +kernel, rfl, rfl⟩
theorem r_12_stay_71 : RC M_X12_stay 71 1 72 := ⟨⟨by decide, by decide⟩, Or.inl ⟨by decide +kernel, rfl⟩⟩
theorem r_12_stay_72 : RB M_X12_stay 72 (.if_icmp .ne) 85 75 := ⟨13, by decide +kernel, rfl, rfl⟩
theorem r_12_stay_85 : RA M_X12_stay 85 0 86 := Or.inl ⟨0, by decide +kernel, rfl, rfl⟩
theorem r_12_stay_86 : RG M_X12_stay 86 12 21 89 := ⟨64, _, by decide +kernel, rfl, by decide, wd_f12_64, rfl, rfl⟩
theorem r_12_stay_89 : RL M_X12_stay 89 5 91 := Or.inr ⟨by decide +kernel, rfl⟩
theorem r_12_stay_91 : RW M_X12_stay 91 .iaload 92 1 := ⟨by decide +kernel, rfl⟩
theorem r_12_stay_92 : RW M_X12_stay 92 .ireturn 93 1 := ⟨by decide +kernel, rfl⟩
theorem r_12_stay_75 : RA M_X12_stay 75 0 76 := Or.inl ⟨0, by decide +kernel, rfl, rfl⟩
theorem r_12_stay_76 : RG M_X12_stay 76 12 20 79 := ⟨61, _, by decide +kernel, rfl, by decide, wd_f12_61, rfl, rfl⟩
theorem r_12_stay_79 : RL M_X12_stay 79 5 81 := Or.inr ⟨by decide +kernel, rfl⟩
theorem r_12_stay_81 : RW M_X12_stay 81 .iaload 82 1 := ⟨by decide +kernel, rfl⟩
theorem r_12_stay_82 : RB M_X12_stay 82 .goto 92 85 := ⟨10, by decide +kernel, rfl, rfl⟩
theorem r_12_stay_60 : RA M_X12_stay 60 0 61 := Or.inl ⟨0, by decide +kernel, rfl, rfl⟩
theorem r_12_stay_61 : RG M_X12_stay 61 12 19 64 := ⟨58, _, by decide +kernel, rfl, by decide, wd_f12_58, rfl, rfl⟩
theorem r_12_stay_64 : RL M_X12_stay 64 5 66 := Or.inr ⟨by decide +kernel, rfl⟩
theorem r_12_stay_66 : RW M_X12_stay 66 .iaload 67 1 := ⟨by decide +kernel, rfl⟩
theorem r_12_stay_67 : RB M_X12_stay 67 .goto 92 70 := ⟨25, by decide +kernel, rfl, rfl⟩
set_option maxRecDepth 10000 in
theorem sp_X1_hasBed {l : Launch} {w : Wo} {d : Nat} {G : PH} {P : Option PV → PH → Prop} {c : Int} (hp : ∀ i, 0 ≤ i → i < (gF G 1 0 1) → gD G 30 0 i = some (3, i)) (hsz : 0 ≤ (gF G 1 0 1) ∧ (gF G 1 0 1) ≤ 150) (hc : 0 ≤ (gF G 2 0 2) ∧ (gF G 2 0 2) ≤ 16) (hP : P (some (vI (b2i ((0 ≤ c ∧ c < (gF G 2 0 2)) ∧ cnt (fun i => (gF G 3 (i) 8) ≤ 1 ∧ (gF G 3 (i) 10) = c) (gF G 1 0 1) < (gA G 42 0 (c)))))) G) : PW l w M_X1_hasBed (d + 1) 0 [some (vR 1 (0)), some (vI (c)), none, none, none] [] G P := by
  refine pw_aload r_1_hasBed_0 rfl ?_
  refine pw_getR r_1_hasBed_1 fs_1_4 (by decide) ?_
  refine pw_iload r_1_hasBed_4 rfl ?_
  refine pw_callV (av := [vI (c)]) (st := []) (ls0 := [some (vR 2 (0)), some (vI (c))]) r_1_hasBed_5 rfl rfl rfl (Nat.le_refl _) ?_
  refine sp_X2_isCamp (by first | assumption | exact hc | omega) ?_
  refine pw_if_neB r_1_hasBed_8 (fun h08 => ?_) (fun h08 => ?_)
  · skip
    refine pw_const r_1_hasBed_13 ?_
    refine pw_istore (ls' := [some (vR 1 (0)), some (vI (c)), some (vI (0)), none, none]) r_1_hasBed_14 rfl rfl ?_
    refine pw_const r_1_hasBed_15 ?_
    refine pw_istore (ls' := [some (vR 1 (0)), some (vI (c)), some (vI (0)), some (vI (0)), none]) r_1_hasBed_16 rfl rfl ?_
    have L17 : ∀ (nF : Nat) (i n : Int), (hi : 0 ≤ i ∧ i ≤ (gF G 1 0 1)) → (hn : n = cnt (fun i => (gF G 3 (i) 8) ≤ 1 ∧ (gF G 3 (i) 10) = c) i) → ((gF G 1 0 1) - i).toNat < nF → PW l w M_X1_hasBed (d + 1) 17 [some (vR 1 (0)), some (vI (c)), some (vI (n)), some (vI (i)), none] [] G P := by
      intro nF
      induction nF with
      | zero => intro _ _ _ _ hM; exact absurd hM (Nat.not_lt_zero _)
      | succ nF ih17 =>
        intro i n hi hn hM17
        have hcl := cnt_le (fun i => (gF G 3 (i) 8) ≤ 1 ∧ (gF G 3 (i) 10) = c) hi.1
        refine pw_iload r_1_hasBed_17 rfl ?_
        refine pw_aload r_1_hasBed_18 rfl ?_
        refine pw_getI r_1_hasBed_19 fs_1_1 (by decide) ?_
        refine pw_icmp_ge r_1_hasBed_22 (fun h22 => ?_) (fun h22 => ?_)
        · skip
          rw [show i = (gF G 1 0 1) by omega] at hn
          refine pw_iload r_1_hasBed_65 rfl ?_
          refine pw_aload r_1_hasBed_66 rfl ?_
          refine pw_getR r_1_hasBed_67 fs_1_4 (by decide) ?_
          refine pw_getR r_1_hasBed_70 fs_2_1 (by decide) ?_
          refine pw_iload r_1_hasBed_73 rfl ?_
          refine pw_iald r_1_hasBed_74 sh42 (by omega) (by omega) ?_
          refine pw_icmp_ge r_1_hasBed_75 (fun h75 => ?_) (fun h75 => ?_)
          · skip
            refine pw_const r_1_hasBed_82 ?_
            refine pw_zret r_1_hasBed_83 rfl (Or.inl rfl) (Nat.le_refl _) ⟨rfl, ?_⟩
            exact pe hP (by first | rfl | omega | exact (b2i_t (by omega)).symm | exact (b2i_f (by omega)).symm)
          · skip
            refine pw_const r_1_hasBed_78 ?_
            refine pw_goto r_1_hasBed_79 ?_
            refine pw_zret r_1_hasBed_83 rfl (Or.inr rfl) (Nat.le_refl _) ⟨rfl, ?_⟩
            exact pe hP (by first | rfl | omega | exact (b2i_t (by omega)).symm | exact (b2i_f (by omega)).symm)
        · skip
          refine pw_aload r_1_hasBed_25 rfl ?_
          refine pw_getR r_1_hasBed_26 fs_1_0 (by decide) ?_
          refine pw_iload r_1_hasBed_29 rfl ?_
          refine pw_aaldPv (q := some (3, i)) r_1_hasBed_30 (by omega) (by omega) (hp i (by omega) (by omega)) ?_
          refine pw_astore (ls' := [some (vR 1 (0)), some (vI (c)), some (vI (n)), some (vI (i)), some (vR 3 (i))]) r_1_hasBed_31 rfl rfl ?_
          refine pw_aload r_1_hasBed_33 rfl ?_
          refine pw_ifnull r_1_hasBed_35 (fun q => by cases q) (fun _ _ => ?_)
          refine pw_aload r_1_hasBed_38 rfl ?_
          refine pw_getI r_1_hasBed_40 fs_3_8 (by decide) ?_
          refine pw_const r_1_hasBed_43 ?_
          refine pw_icmp_gt r_1_hasBed_44 (fun h44 => ?_) (fun h44 => ?_)
          · skip
            refine pw_iinc (b := 0) (ls' := [some (vR 1 (0)), some (vI (c)), some (vI (n)), some (vI ((i + 1))), some (vR 3 (i))]) r_1_hasBed_59 rfl rfl (by omega) rfl ?_
            refine pw_goto r_1_hasBed_62 ?_
            refine pw_weakL (ls' := [some (vR 1 (0)), some (vI (c)), some (vI (n)), some (vI ((i + 1))), none]) (⟨rfl, ⟨rfl, ⟨rfl, ⟨rfl, trivial⟩⟩⟩⟩) ?_
            exact ih17 ((i + 1)) (n) (by omega) (by first | (rw [cnt_t hi.1 (show (gF G 3 (i) 8) ≤ 1 ∧ (gF G 3 (i) 10) = c by omega)]; omega) | (rw [cnt_f hi.1 (show ¬ ((gF G 3 (i) 8) ≤ 1 ∧ (gF G 3 (i) 10) = c) by omega)]; omega)) (by omega)
          · skip
            refine pw_aload r_1_hasBed_47 rfl ?_
            refine pw_getI r_1_hasBed_49 fs_3_10 (by decide) ?_
            refine pw_iload r_1_hasBed_52 rfl ?_
            refine pw_icmp_ne r_1_hasBed_53 (fun h53 => ?_) (fun h53 => ?_)
            · skip
              refine pw_iinc (b := 0) (ls' := [some (vR 1 (0)), some (vI (c)), some (vI (n)), some (vI ((i + 1))), some (vR 3 (i))]) r_1_hasBed_59 rfl rfl (by omega) rfl ?_
              refine pw_goto r_1_hasBed_62 ?_
              refine pw_weakL (ls' := [some (vR 1 (0)), some (vI (c)), some (vI (n)), some (vI ((i + 1))), none]) (⟨rfl, ⟨rfl, ⟨rfl, ⟨rfl, trivial⟩⟩⟩⟩) ?_
              exact ih17 ((i + 1)) (n) (by omega) (by first | (rw [cnt_t hi.1 (show (gF G 3 (i) 8) ≤ 1 ∧ (gF G 3 (i) 10) = c by omega)]; omega) | (rw [cnt_f hi.1 (show ¬ ((gF G 3 (i) 8) ≤ 1 ∧ (gF G 3 (i) 10) = c) by omega)]; omega)) (by omega)
            · skip
              refine pw_iinc (b := 0) (ls' := [some (vR 1 (0)), some (vI (c)), some (vI ((n + 1))), some (vI (i)), some (vR 3 (i))]) r_1_hasBed_56 rfl rfl (by omega) rfl ?_
              refine pw_iinc (b := 0) (ls' := [some (vR 1 (0)), some (vI (c)), some (vI ((n + 1))), some (vI ((i + 1))), some (vR 3 (i))]) r_1_hasBed_59 rfl rfl (by omega) rfl ?_
              refine pw_goto r_1_hasBed_62 ?_
              refine pw_weakL (ls' := [some (vR 1 (0)), some (vI (c)), some (vI ((n + 1))), some (vI ((i + 1))), none]) (⟨rfl, ⟨rfl, ⟨rfl, ⟨rfl, trivial⟩⟩⟩⟩) ?_
              exact ih17 ((i + 1)) ((n + 1)) (by omega) (by first | (rw [cnt_t hi.1 (show (gF G 3 (i) 8) ≤ 1 ∧ (gF G 3 (i) 10) = c by omega)]; omega) | (rw [cnt_f hi.1 (show ¬ ((gF G 3 (i) 8) ≤ 1 ∧ (gF G 3 (i) 10) = c) by omega)]; omega)) (by omega)
    exact L17 _ (0) (0) (by omega) (rfl) (Nat.lt_succ_self _)
  · skip
    refine pw_const r_1_hasBed_11 ?_
    refine pw_zret r_1_hasBed_12 rfl (Or.inl rfl) (Nat.le_refl _) ⟨rfl, ?_⟩
    exact pe hP (by first | rfl | omega | exact (b2i_t (by omega)).symm | exact (b2i_f (by omega)).symm)
set_option maxRecDepth 10000 in
theorem sp_X1_hasStay {l : Launch} {w : Wo} {d : Nat} {G : PH} {P : Option PV → PH → Prop} (hp : ∀ i, 0 ≤ i → i < (gF G 1 0 1) → gD G 30 0 i = some (3, i)) (hsz : 0 ≤ (gF G 1 0 1) ∧ (gF G 1 0 1) ≤ 150) (hst : 0 ≤ (gF G 1 0 3) ∧ (gF G 1 0 3) ≤ 400) (hc : 0 ≤ (gF G 2 0 2) ∧ (gF G 2 0 2) ≤ 16) (hP : P (some (vI (b2i ((gF G 1 0 3) + cnt (fun i => (gF G 3 (i) 8) = 1 ∧ 0 ≤ (gF G 3 (i) 10) ∧ (gF G 3 (i) 10) < (gF G 2 0 2)) (gF G 1 0 1) < 400)))) G) : PW l w M_X1_hasStay (d + 1) 0 [some (vR 1 (0)), none, none, none] [] G P := by
  refine pw_aload r_1_hasStay_0 rfl ?_
  refine pw_getI r_1_hasStay_1 fs_1_3 (by decide) ?_
  refine pw_istore (ls' := [some (vR 1 (0)), some (vI (gF G 1 (0) 3)), none, none]) r_1_hasStay_4 rfl rfl ?_
  refine pw_const r_1_hasStay_5 ?_
  refine pw_istore (ls' := [some (vR 1 (0)), some (vI (gF G 1 (0) 3)), some (vI (0)), none]) r_1_hasStay_6 rfl rfl ?_
  have L7 : ∀ (nF : Nat) (i n : Int), (hi : 0 ≤ i ∧ i ≤ (gF G 1 0 1)) → (hn : n = (gF G 1 0 3) + cnt (fun i => (gF G 3 (i) 8) = 1 ∧ 0 ≤ (gF G 3 (i) 10) ∧ (gF G 3 (i) 10) < (gF G 2 0 2)) i) → ((gF G 1 0 1) - i).toNat < nF → PW l w M_X1_hasStay (d + 1) 7 [some (vR 1 (0)), some (vI (n)), some (vI (i)), none] [] G P := by
    intro nF
    induction nF with
    | zero => intro _ _ _ _ hM; exact absurd hM (Nat.not_lt_zero _)
    | succ nF ih7 =>
      intro i n hi hn hM7
      have hcl := cnt_le (fun i => (gF G 3 (i) 8) = 1 ∧ 0 ≤ (gF G 3 (i) 10) ∧ (gF G 3 (i) 10) < (gF G 2 0 2)) hi.1
      refine pw_iload r_1_hasStay_7 rfl ?_
      refine pw_aload r_1_hasStay_8 rfl ?_
      refine pw_getI r_1_hasStay_9 fs_1_1 (by decide) ?_
      refine pw_icmp_ge r_1_hasStay_12 (fun h12 => ?_) (fun h12 => ?_)
      · skip
        rw [show i = (gF G 1 0 1) by omega] at hn
        refine pw_iload r_1_hasStay_57 rfl ?_
        refine pw_const r_1_hasStay_58 ?_
        refine pw_icmp_ge r_1_hasStay_61 (fun h61 => ?_) (fun h61 => ?_)
        · skip
          refine pw_const r_1_hasStay_68 ?_
          refine pw_zret r_1_hasStay_69 rfl (Or.inl rfl) (Nat.le_refl _) ⟨rfl, ?_⟩
          exact pe hP (by first | rfl | omega | exact (b2i_t (by omega)).symm | exact (b2i_f (by omega)).symm)
        · skip
          refine pw_const r_1_hasStay_64 ?_
          refine pw_goto r_1_hasStay_65 ?_
          refine pw_zret r_1_hasStay_69 rfl (Or.inr rfl) (Nat.le_refl _) ⟨rfl, ?_⟩
          exact pe hP (by first | rfl | omega | exact (b2i_t (by omega)).symm | exact (b2i_f (by omega)).symm)
      · skip
        refine pw_aload r_1_hasStay_15 rfl ?_
        refine pw_getR r_1_hasStay_16 fs_1_0 (by decide) ?_
        refine pw_iload r_1_hasStay_19 rfl ?_
        refine pw_aaldPv (q := some (3, i)) r_1_hasStay_20 (by omega) (by omega) (hp i (by omega) (by omega)) ?_
        refine pw_astore (ls' := [some (vR 1 (0)), some (vI (n)), some (vI (i)), some (vR 3 (i))]) r_1_hasStay_21 rfl rfl ?_
        refine pw_aload r_1_hasStay_22 rfl ?_
        refine pw_ifnull r_1_hasStay_23 (fun q => by cases q) (fun _ _ => ?_)
        refine pw_aload r_1_hasStay_26 rfl ?_
        refine pw_getI r_1_hasStay_27 fs_3_8 (by decide) ?_
        refine pw_const r_1_hasStay_30 ?_
        refine pw_icmp_ne r_1_hasStay_31 (fun h31 => ?_) (fun h31 => ?_)
        · skip
          refine pw_iinc (b := 0) (ls' := [some (vR 1 (0)), some (vI (n)), some (vI ((i + 1))), some (vR 3 (i))]) r_1_hasStay_51 rfl rfl (by omega) rfl ?_
          refine pw_goto r_1_hasStay_54 ?_
          refine pw_weakL (ls' := [some (vR 1 (0)), some (vI (n)), some (vI ((i + 1))), none]) (⟨rfl, ⟨rfl, ⟨rfl, trivial⟩⟩⟩) ?_
          exact ih7 ((i + 1)) (n) (by omega) (by first | (rw [cnt_t hi.1 (show (gF G 3 (i) 8) = 1 ∧ 0 ≤ (gF G 3 (i) 10) ∧ (gF G 3 (i) 10) < (gF G 2 0 2) by omega)]; omega) | (rw [cnt_f hi.1 (show ¬ ((gF G 3 (i) 8) = 1 ∧ 0 ≤ (gF G 3 (i) 10) ∧ (gF G 3 (i) 10) < (gF G 2 0 2)) by omega)]; omega)) (by omega)
        · skip
          refine pw_aload r_1_hasStay_34 rfl ?_
          refine pw_getR r_1_hasStay_35 fs_1_4 (by decide) ?_
          refine pw_aload r_1_hasStay_38 rfl ?_
          refine pw_getI r_1_hasStay_39 fs_3_10 (by decide) ?_
          refine pw_callV (av := [vI (gF G 3 (i) 10)]) (st := []) (ls0 := [some (vR 2 (0)), some (vI (gF G 3 (i) 10))]) r_1_hasStay_42 rfl rfl rfl (Nat.le_refl _) ?_
          refine sp_X2_isCamp (by first | assumption | exact hc | omega) ?_
          refine pw_if_eqB r_1_hasStay_45 (fun h45 => ?_) (fun h45 => ?_)
          · skip
            refine pw_iinc (b := 0) (ls' := [some (vR 1 (0)), some (vI (n)), some (vI ((i + 1))), some (vR 3 (i))]) r_1_hasStay_51 rfl rfl (by omega) rfl ?_
            refine pw_goto r_1_hasStay_54 ?_
            refine pw_weakL (ls' := [some (vR 1 (0)), some (vI (n)), some (vI ((i + 1))), none]) (⟨rfl, ⟨rfl, ⟨rfl, trivial⟩⟩⟩) ?_
            exact ih7 ((i + 1)) (n) (by omega) (by first | (rw [cnt_t hi.1 (show (gF G 3 (i) 8) = 1 ∧ 0 ≤ (gF G 3 (i) 10) ∧ (gF G 3 (i) 10) < (gF G 2 0 2) by omega)]; omega) | (rw [cnt_f hi.1 (show ¬ ((gF G 3 (i) 8) = 1 ∧ 0 ≤ (gF G 3 (i) 10) ∧ (gF G 3 (i) 10) < (gF G 2 0 2)) by omega)]; omega)) (by omega)
          · skip
            refine pw_iinc (b := 0) (ls' := [some (vR 1 (0)), some (vI ((n + 1))), some (vI (i)), some (vR 3 (i))]) r_1_hasStay_48 rfl rfl (by omega) rfl ?_
            refine pw_iinc (b := 0) (ls' := [some (vR 1 (0)), some (vI ((n + 1))), some (vI ((i + 1))), some (vR 3 (i))]) r_1_hasStay_51 rfl rfl (by omega) rfl ?_
            refine pw_goto r_1_hasStay_54 ?_
            refine pw_weakL (ls' := [some (vR 1 (0)), some (vI ((n + 1))), some (vI ((i + 1))), none]) (⟨rfl, ⟨rfl, ⟨rfl, trivial⟩⟩⟩) ?_
            exact ih7 ((i + 1)) ((n + 1)) (by omega) (by first | (rw [cnt_t hi.1 (show (gF G 3 (i) 8) = 1 ∧ 0 ≤ (gF G 3 (i) 10) ∧ (gF G 3 (i) 10) < (gF G 2 0 2) by omega)]; omega) | (rw [cnt_f hi.1 (show ¬ ((gF G 3 (i) 8) = 1 ∧ 0 ≤ (gF G 3 (i) 10) ∧ (gF G 3 (i) 10) < (gF G 2 0 2)) by omega)]; omega)) (by omega)
  exact L7 _ (0) (gF G 1 (0) 3) (by omega) (by rw [cnt_0]; omega) (Nat.lt_succ_self _)
set_option maxRecDepth 10000 in
theorem sp_X1_beginStay {l : Launch} {w : Wo} {d : Nat} {G : PH} {P : Option PV → PH → Prop} {p : Int} (hst : 0 ≤ (gF G 1 0 3) ∧ (gF G 1 0 3) ≤ 400) (hnum : (gF G 3 (p) 0) = p) (h1 : 400 ≤ (gF G 1 0 3) → P none G) (h2 : (gF G 1 0 3) < 400 → P none (sF (sA (sA (sA (sA G 32 0 ((gF G 1 0 3)) (p)) 33 0 ((gF G 1 0 3)) ((gF G 3 (p) 10))) 34 0 ((gF G 1 0 3)) ((gF G 1 0 2))) 35 0 ((gF G 1 0 3)) (-1)) 1 0 3 ((gF G 1 0 3) + 1))) : PW l w M_X1_beginStay (d + 0) 0 [some (vR 1 (0)), some (vR 3 (p))] [] G P := by
  refine pw_aload r_1_beginStay_0 rfl ?_
  refine pw_getI r_1_beginStay_1 fs_1_3 (by decide) ?_
  refine pw_const r_1_beginStay_4 ?_
  refine pw_icmp_lt r_1_beginStay_7 (fun h07 => ?_) (fun h07 => ?_)
  · skip
    refine pw_aload r_1_beginStay_11 rfl ?_
    refine pw_getR r_1_beginStay_12 fs_1_6 (by decide) ?_
    refine pw_aload r_1_beginStay_15 rfl ?_
    refine pw_getI r_1_beginStay_16 fs_1_3 (by decide) ?_
    refine pw_aload r_1_beginStay_19 rfl ?_
    refine pw_getI r_1_beginStay_20 fs_3_0 (by decide) ?_
    refine pw_top (b := p) (hnum) ?_
    refine pw_iast r_1_beginStay_23 sh32 (by omega) (by omega) ?_
    refine pw_aload r_1_beginStay_24 rfl ?_
    refine pw_getR r_1_beginStay_25 fs_1_7 (by decide) ?_
    refine pw_aload r_1_beginStay_28 rfl ?_
    refine pw_getIv (v := gF G 1 (0) 3) r_1_beginStay_29 fs_1_3 (by decide) (by first | rfl | simp [gF_sF, gF_sA, gF_uA, gF_sD, gA_sF, gA_sA, gA_uA, gA_sD, gD_sF, gD_sA, gD_uA, gD_sD]) ?_
    refine pw_aload r_1_beginStay_32 rfl ?_
    refine pw_getIv (v := gF G 3 (p) 10) r_1_beginStay_33 fs_3_10 (by decide) (by first | rfl | simp [gF_sF, gF_sA, gF_uA, gF_sD, gA_sF, gA_sA, gA_uA, gA_sD, gD_sF, gD_sA, gD_uA, gD_sD]) ?_
    refine pw_iast r_1_beginStay_36 sh33 (by omega) (by omega) ?_
    refine pw_aload r_1_beginStay_37 rfl ?_
    refine pw_getR r_1_beginStay_38 fs_1_8 (by decide) ?_
    refine pw_aload r_1_beginStay_41 rfl ?_
    refine pw_getIv (v := gF G 1 (0) 3) r_1_beginStay_42 fs_1_3 (by decide) (by first | rfl | simp [gF_sF, gF_sA, gF_uA, gF_sD, gA_sF, gA_sA, gA_uA, gA_sD, gD_sF, gD_sA, gD_uA, gD_sD]) ?_
    refine pw_aload r_1_beginStay_45 rfl ?_
    refine pw_getIv (v := gF G 1 (0) 2) r_1_beginStay_46 fs_1_2 (by decide) (by first | rfl | simp [gF_sF, gF_sA, gF_uA, gF_sD, gA_sF, gA_sA, gA_uA, gA_sD, gD_sF, gD_sA, gD_uA, gD_sD]) ?_
    refine pw_iast r_1_beginStay_49 sh34 (by omega) (by omega) ?_
    refine pw_aload r_1_beginStay_50 rfl ?_
    refine pw_getR r_1_beginStay_51 fs_1_9 (by decide) ?_
    refine pw_aload r_1_beginStay_54 rfl ?_
    refine pw_getIv (v := gF G 1 (0) 3) r_1_beginStay_55 fs_1_3 (by decide) (by first | rfl | simp [gF_sF, gF_sA, gF_uA, gF_sD, gA_sF, gA_sA, gA_uA, gA_sD, gD_sF, gD_sA, gD_uA, gD_sD]) ?_
    refine pw_const r_1_beginStay_58 ?_
    refine pw_iast r_1_beginStay_59 sh35 (by omega) (by omega) ?_
    refine pw_aload r_1_beginStay_60 rfl ?_
    refine pw_dup r_1_beginStay_61 rfl ?_
    refine pw_getIv (v := gF G 1 (0) 3) r_1_beginStay_62 fs_1_3 (by decide) (by first | rfl | simp [gF_sF, gF_sA, gF_uA, gF_sD, gA_sF, gA_sA, gA_uA, gA_sD, gD_sF, gD_sA, gD_uA, gD_sD]) ?_
    refine pw_const r_1_beginStay_65 ?_
    refine pw_iadd r_1_beginStay_66 (by omega) ?_
    refine pw_putI r_1_beginStay_67 (by decide +kernel) fs_1_3 (by decide) ?_
    refine pw_vret r_1_beginStay_70 rfl (Nat.le_refl _) ⟨rfl, ?_⟩
    first | exact h1 (by omega) | exact h2 (by omega)
  · skip
    refine pw_vret r_1_beginStay_10 rfl (Nat.le_refl _) ⟨rfl, ?_⟩
    first | exact h1 (by omega) | exact h2 (by omega)
set_option maxRecDepth 10000 in
theorem sp_X1_leave {l : Launch} {w : Wo} {d : Nat} {G : PH} {P : Option PV → PH → Prop} {p s : Int} (hst : 0 ≤ (gF G 1 0 3) ∧ (gF G 1 0 3) ≤ 400) (hnum : (gF G 3 (p) 0) = p) (hP : P none (sF (sF (sF (sF (uA G 35 0 (filF (fun j0 => (gA G 32 0 (j0)) = p ∧ (gA G 35 0 (j0)) = -1) (fun j0 => (gF G 1 0 2)) (gA G 35 0) (gF G 1 0 3))) 3 (p) 8 (s)) 3 (p) 10 (-1)) 3 (p) 9 ((gF G 1 0 2))) 3 (p) 11 (-1))) : PW l w M_X1_leave (d + 1) 0 [some (vR 1 (0)), some (vR 3 (p)), some (vI (s)), none] [] G P := by
  refine pw_const r_1_leave_0 ?_
  refine pw_istore (ls' := [some (vR 1 (0)), some (vR 3 (p)), some (vI (s)), some (vI (0))]) r_1_leave_1 rfl rfl ?_
  have L2 : ∀ (nF : Nat) (i : Int), (hi : 0 ≤ i ∧ i ≤ (gF G 1 0 3)) → ((gF G 1 0 3) - i).toNat < nF → PW l w M_X1_leave (d + 1) 2 [some (vR 1 (0)), some (vR 3 (p)), some (vI (s)), some (vI (i))] [] (uA G 35 (0) (filF (fun j0 => (gA G 32 0 (j0)) = p ∧ (gA G 35 0 (j0)) = -1) (fun j0 => (gF G 1 0 2)) (gA G 35 0) i)) P := by
    intro nF
    induction nF with
    | zero => intro _ _ hM; exact absurd hM (Nat.not_lt_zero _)
    | succ nF ih2 =>
      intro i hi hM2
      refine pw_iload r_1_leave_2 rfl ?_
      refine pw_aload r_1_leave_3 rfl ?_
      refine pw_getIv (v := gF G 1 (0) 3) r_1_leave_4 fs_1_3 (by decide) (by first | rfl | simp [gF_sF, gF_sA, gF_uA, gF_sD, gA_sF, gA_sA, gA_uA, gA_sD, gD_sF, gD_sA, gD_uA, gD_sD]) ?_
      refine pw_icmp_ge r_1_leave_7 (fun h07 => ?_) (fun h07 => ?_)
      · skip
        have ei : i = (gF G 1 0 3) := by omega
        subst ei
        refine pw_eqG (G' := uA G 35 (0) (filF (fun j0 => (gA G 32 0 (j0)) = p ∧ (gA G 35 0 (j0)) = -1) (fun j0 => (gF G 1 0 2)) (gA G 35 0) (gF G 1 0 3))) (by first | rfl | (rw [uA_self]; done) | (rw [sA_uA]; done) | (rw [sA_eq]; done) | (simp (disch := decide) only [sA_uA, sA_uA_ne, uA_abs, uA_abs2, uA_uA]; done) | (simp (disch := decide) only [sA_eq, sA_uA, sA_uA_ne, uA_abs, uA_abs2, uA_uA]; done) | (refine PH_ext (fun _ _ _ => ?_) (fun _ _ _ => ?_) (fun _ _ _ => ?_) <;> simp only [gF_sF, gF_sA, gF_uA, gF_sD, gA_sF, gA_sA, gA_uA, gA_sD, gD_sF, gD_sA, gD_uA, gD_sD] <;> (repeat' split) <;> first | rfl | (exfalso; omega) | simp_all)) ?_
        refine pw_aload r_1_leave_49 rfl ?_
        refine pw_iload r_1_leave_50 rfl ?_
        refine pw_const r_1_leave_51 ?_
        refine pw_aload r_1_leave_52 rfl ?_
        refine pw_getIv (v := gF G 1 (0) 2) r_1_leave_53 fs_1_2 (by decide) (by first | rfl | simp [gF_sF, gF_sA, gF_uA, gF_sD, gA_sF, gA_sA, gA_uA, gA_sD, gD_sF, gD_sA, gD_uA, gD_sD]) ?_
        refine pw_callV (av := [vI (s), vI ((-1)), vI (gF G 1 (0) 2)]) (st := []) (ls0 := [some (vR 3 (p)), some (vI (s)), some (vI ((-1))), some (vI (gF G 1 (0) 2))]) r_1_leave_56 rfl rfl rfl (Nat.le_refl _) ?_
        refine sp_X3_enter  ?_
        refine pw_eqG (G' := sF (sF (sF (sF (uA G 35 (0) (filF (fun j0 => (gA G 32 0 (j0)) = p ∧ (gA G 35 0 (j0)) = -1) (fun j0 => (gF G 1 0 2)) (gA G 35 0) (gF G 1 0 3))) 3 (p) 8 (s)) 3 (p) 10 ((-1))) 3 (p) 9 ((gF G 1 (0) 2))) 3 (p) 11 (-1)) (by first | rfl | simp (disch := decide) [gF_sF, gF_sA, gF_uA, gF_sD, gA_sF, gA_sA, gA_uA, gA_sD, gD_sF, gD_sA, gD_uA, gD_sD]) ?_
        refine pw_vret r_1_leave_59 rfl (Nat.le_refl _) ⟨rfl, ?_⟩
        exact hP
      · skip
        refine pw_aload r_1_leave_10 rfl ?_
        refine pw_getR r_1_leave_11 fs_1_6 (by decide) ?_
        refine pw_iload r_1_leave_14 rfl ?_
        refine pw_ialdv (v := gA G 32 (0) (i)) r_1_leave_15 sh32 (by omega) (by omega) (by first | rfl | simp [gF_sF, gF_sA, gF_uA, gF_sD, gA_sF, gA_sA, gA_uA, gA_sD, gD_sF, gD_sA, gD_uA, gD_sD]) ?_
        refine pw_aload r_1_leave_16 rfl ?_
        refine pw_getIv (v := gF G 3 (p) 0) r_1_leave_17 fs_3_0 (by decide) (by first | rfl | simp [gF_sF, gF_sA, gF_uA, gF_sD, gA_sF, gA_sA, gA_uA, gA_sD, gD_sF, gD_sA, gD_uA, gD_sD]) ?_
        refine pw_top (b := p) (hnum) ?_
        refine pw_icmp_ne r_1_leave_20 (fun h20 => ?_) (fun h20 => ?_)
        · skip
          refine pw_iinc (b := 0) (ls' := [some (vR 1 (0)), some (vR 3 (p)), some (vI (s)), some (vI ((i + 1)))]) r_1_leave_43 rfl rfl (by omega) rfl ?_
          refine pw_goto r_1_leave_46 ?_
          refine pw_eqG (G' := uA G 35 (0) (filF (fun j0 => (gA G 32 0 (j0)) = p ∧ (gA G 35 0 (j0)) = -1) (fun j0 => (gF G 1 0 2)) (gA G 35 0) (i + 1))) (by first | (rw [sA_uA, fil_s hi.1 (show (gA G 32 0 (i)) = p ∧ (gA G 35 0 (i)) = -1 by omega) (by first | rfl | omega)]) | (rw [fil_k (show ¬ ((gA G 32 0 (i)) = p ∧ (gA G 35 0 (i)) = -1) by omega)])) ?_
          exact ih2 ((i + 1)) (by omega) (by omega)
        · skip
          refine pw_aload r_1_leave_23 rfl ?_
          refine pw_getR r_1_leave_24 fs_1_9 (by decide) ?_
          refine pw_iload r_1_leave_27 rfl ?_
          refine pw_ialdv (v := (filF (fun j0 => (gA G 32 0 (j0)) = p ∧ (gA G 35 0 (j0)) = -1) (fun j0 => (gF G 1 0 2)) (gA G 35 0) i) (i)) r_1_leave_28 sh35 (by omega) (by omega) (by first | rfl | simp [gF_sF, gF_sA, gF_uA, gF_sD, gA_sF, gA_sA, gA_uA, gA_sD, gD_sF, gD_sA, gD_uA, gD_sD]) ?_
          refine pw_top (b := (gA G 35 0 (i))) (fil_at) ?_
          refine pw_const r_1_leave_29 ?_
          refine pw_icmp_ne r_1_leave_30 (fun h30 => ?_) (fun h30 => ?_)
          · skip
            refine pw_iinc (b := 0) (ls' := [some (vR 1 (0)), some (vR 3 (p)), some (vI (s)), some (vI ((i + 1)))]) r_1_leave_43 rfl rfl (by omega) rfl ?_
            refine pw_goto r_1_leave_46 ?_
            refine pw_eqG (G' := uA G 35 (0) (filF (fun j0 => (gA G 32 0 (j0)) = p ∧ (gA G 35 0 (j0)) = -1) (fun j0 => (gF G 1 0 2)) (gA G 35 0) (i + 1))) (by first | (rw [sA_uA, fil_s hi.1 (show (gA G 32 0 (i)) = p ∧ (gA G 35 0 (i)) = -1 by omega) (by first | rfl | omega)]) | (rw [fil_k (show ¬ ((gA G 32 0 (i)) = p ∧ (gA G 35 0 (i)) = -1) by omega)])) ?_
            exact ih2 ((i + 1)) (by omega) (by omega)
          · skip
            refine pw_aload r_1_leave_33 rfl ?_
            refine pw_getR r_1_leave_34 fs_1_9 (by decide) ?_
            refine pw_iload r_1_leave_37 rfl ?_
            refine pw_aload r_1_leave_38 rfl ?_
            refine pw_getIv (v := gF G 1 (0) 2) r_1_leave_39 fs_1_2 (by decide) (by first | rfl | simp [gF_sF, gF_sA, gF_uA, gF_sD, gA_sF, gA_sA, gA_uA, gA_sD, gD_sF, gD_sA, gD_uA, gD_sD]) ?_
            refine pw_iast r_1_leave_42 sh35 (by omega) (by omega) ?_
            refine pw_iinc (b := 0) (ls' := [some (vR 1 (0)), some (vR 3 (p)), some (vI (s)), some (vI ((i + 1)))]) r_1_leave_43 rfl rfl (by omega) rfl ?_
            refine pw_goto r_1_leave_46 ?_
            refine pw_eqG (G' := uA G 35 (0) (filF (fun j0 => (gA G 32 0 (j0)) = p ∧ (gA G 35 0 (j0)) = -1) (fun j0 => (gF G 1 0 2)) (gA G 35 0) (i + 1))) (by first | (rw [sA_uA, fil_s hi.1 (show (gA G 32 0 (i)) = p ∧ (gA G 35 0 (i)) = -1 by omega) (by first | rfl | omega)]) | (rw [fil_k (show ¬ ((gA G 32 0 (i)) = p ∧ (gA G 35 0 (i)) = -1) by omega)])) ?_
            exact ih2 ((i + 1)) (by omega) (by omega)
  refine pw_eqG (G' := uA G 35 (0) (filF (fun j0 => (gA G 32 0 (j0)) = p ∧ (gA G 35 0 (j0)) = -1) (fun j0 => (gF G 1 0 2)) (gA G 35 0) 0)) (by rw [fil_0]; exact (uA_self G 35 0).symm) ?_
  exact L2 _ (0) (by omega) (Nat.lt_succ_self _)
set_option maxRecDepth 10000 in
theorem sp_X1_ease {l : Launch} {w : Wo} {d : Nat} {G : PH} {P : Option PV → PH → Prop} {p g : Int} (hp : ∀ i, 0 ≤ i → i < (gF G 1 0 1) → gD G 30 0 i = some (3, i)) (hsz : 0 ≤ (gF G 1 0 1) ∧ (gF G 1 0 1) ≤ 150) (h1 : ¬ ((0 ≤ p ∧ p < (gF G 1 0 1)) ∧ 0 ≤ g ∧ g ≤ 9) → P (some (vI (-1))) G) (h2 : (0 ≤ p ∧ p < (gF G 1 0 1)) → (0 ≤ g ∧ g ≤ 9) → ((gF G 3 (p) 8) ≠ 0 ∨ (gF G 3 (p) 6) ≤ g) → P (some (vI (-3))) G) (h3 : (0 ≤ p ∧ p < (gF G 1 0 1)) → (0 ≤ g ∧ g ≤ 9) → (gF G 3 (p) 8) = 0 → g < (gF G 3 (p) 6) → P (some (vI (gF G 3 (p) 6))) (sF (sF G 3 (p) 6 (g)) 3 (p) 7 ((gF G 1 0 2)))) : PW l w M_X1_ease (d + 1) 0 [some (vR 1 (0)), some (vI (p)), some (vI (g)), none, none] [] G P := by
  refine pw_aload r_1_ease_0 rfl ?_
  refine pw_iload r_1_ease_1 rfl ?_
  refine pw_callV (av := [vI (p)]) (st := []) (ls0 := [some (vR 1 (0)), some (vI (p))]) r_1_ease_2 rfl rfl rfl (Nat.le_refl _) ?_
  refine sp_X1_get (by first | assumption | exact hp | omega) (by first | assumption | exact hsz | omega) ?_ ?_
  · skip
    intros
    refine pw_astore (ls' := [some (vR 1 (0)), some (vI (p)), some (vI (g)), some (vN), none]) r_1_ease_5 rfl rfl ?_
    refine pw_aload r_1_ease_6 rfl ?_
    refine pw_ifnull r_1_ease_7 (fun _ => ?_) (fun _ q => by cases q)
    refine pw_const r_1_ease_20 ?_
    refine pw_iret r_1_ease_21 rfl (Nat.le_refl _) ⟨rfl, ?_⟩
    first | exact h1 (by omega) | exact h2 (by omega) (by omega) (by omega) | exact h3 (by omega) (by omega) (by omega) (by omega)
  · skip
    intros
    refine pw_astore (ls' := [some (vR 1 (0)), some (vI (p)), some (vI (g)), some (vR 3 (p)), none]) r_1_ease_5 rfl rfl ?_
    refine pw_aload r_1_ease_6 rfl ?_
    refine pw_ifnull r_1_ease_7 (fun q => by cases q) (fun _ _ => ?_)
    refine pw_iload r_1_ease_10 rfl ?_
    refine pw_const r_1_ease_11 ?_
    refine pw_const r_1_ease_12 ?_
    refine pw_callS (av := [vI (g), vI (0), vI (9)]) (st := []) (ls0 := [some (vI (g)), some (vI (0)), some (vI (9))]) r_1_ease_14 rfl rfl rfl (Nat.le_refl _) ?_
    refine sp_X11_within  ?_
    refine pw_if_neB r_1_ease_17 (fun h17 => ?_) (fun h17 => ?_)
    · skip
      refine pw_aload r_1_ease_22 rfl ?_
      refine pw_getI r_1_ease_23 fs_3_8 (by decide) ?_
      refine pw_if_ne r_1_ease_26 (fun h26 => ?_) (fun h26 => ?_)
      · skip
        refine pw_const r_1_ease_37 ?_
        refine pw_iret r_1_ease_39 rfl (Nat.le_refl _) ⟨rfl, ?_⟩
        first | exact h1 (by omega) | exact h2 (by omega) (by omega) (by omega) | exact h3 (by omega) (by omega) (by omega) (by omega)
      · skip
        refine pw_iload r_1_ease_29 rfl ?_
        refine pw_aload r_1_ease_30 rfl ?_
        refine pw_getI r_1_ease_31 fs_3_6 (by decide) ?_
        refine pw_icmp_lt r_1_ease_34 (fun h34 => ?_) (fun h34 => ?_)
        · skip
          refine pw_aload r_1_ease_40 rfl ?_
          refine pw_getI r_1_ease_41 fs_3_6 (by decide) ?_
          refine pw_istore (ls' := [some (vR 1 (0)), some (vI (p)), some (vI (g)), some (vR 3 (p)), some (vI (gF G 3 (p) 6))]) r_1_ease_44 rfl rfl ?_
          refine pw_aload r_1_ease_46 rfl ?_
          refine pw_iload r_1_ease_47 rfl ?_
          refine pw_putI r_1_ease_48 (by decide +kernel) fs_3_6 (by decide) ?_
          refine pw_aload r_1_ease_51 rfl ?_
          refine pw_aload r_1_ease_52 rfl ?_
          refine pw_getIv (v := gF G 1 (0) 2) r_1_ease_53 fs_1_2 (by decide) (by first | rfl | simp [gF_sF, gF_sA, gF_uA, gF_sD, gA_sF, gA_sA, gA_uA, gA_sD, gD_sF, gD_sA, gD_uA, gD_sD]) ?_
          refine pw_putI r_1_ease_56 (by decide +kernel) fs_3_7 (by decide) ?_
          refine pw_iload r_1_ease_59 rfl ?_
          refine pw_iret r_1_ease_61 rfl (Nat.le_refl _) ⟨rfl, ?_⟩
          first | exact h1 (by omega) | exact h2 (by omega) (by omega) (by omega) | exact h3 (by omega) (by omega) (by omega) (by omega)
        · skip
          refine pw_const r_1_ease_37 ?_
          refine pw_iret r_1_ease_39 rfl (Nat.le_refl _) ⟨rfl, ?_⟩
          first | exact h1 (by omega) | exact h2 (by omega) (by omega) (by omega) | exact h3 (by omega) (by omega) (by omega) (by omega)
    · skip
      refine pw_const r_1_ease_20 ?_
      refine pw_iret r_1_ease_21 rfl (Nat.le_refl _) ⟨rfl, ?_⟩
      first | exact h1 (by omega) | exact h2 (by omega) (by omega) (by omega) | exact h3 (by omega) (by omega) (by omega) (by omega)
set_option maxRecDepth 10000 in
theorem sp_X12_heal {l : Launch} {w : Wo} {d : Nat} {G : PH} {P : Option PV → PH → Prop} {p g : Int} (hsz : 0 ≤ (gF G 12 0 17) ∧ (gF G 12 0 17) ≤ 150) (h1 : ¬ ((0 ≤ p ∧ p < (gF G 12 0 17)) ∧ 0 ≤ g ∧ g ≤ 9) → P (some (vI (-1))) G) (h2 : (0 ≤ p ∧ p < (gF G 12 0 17)) → (0 ≤ g ∧ g ≤ 9) → ((gA G 206 0 (p)) ≠ 0 ∨ (gA G 210 0 (p)) ≤ g) → P (some (vI (-3))) G) (h3 : (0 ≤ p ∧ p < (gF G 12 0 17)) → (0 ≤ g ∧ g ≤ 9) → (gA G 206 0 (p)) = 0 → g < (gA G 210 0 (p)) → P (some (vI (gA G 210 0 (p)))) (sA (sA G 210 0 (p) (g)) 211 0 (p) ((gF G 12 0 0)))) : PW l w M_X12_heal (d + 1) 0 [some (vR 12 (0)), some (vI (p)), some (vI (g)), none] [] G P := by
  refine pw_aload r_12_heal_0 rfl ?_
  refine pw_iload r_12_heal_1 rfl ?_
  refine pw_callV (av := [vI (p)]) (st := []) (ls0 := [some (vR 12 (0)), some (vI (p))]) r_12_heal_2 rfl rfl rfl (Nat.le_refl _) ?_
  refine sp_X12_isPerson  ?_
  refine pw_if_eqB r_12_heal_5 (fun h05 => ?_) (fun h05 => ?_)
  · skip
    refine pw_const r_12_heal_18 ?_
    refine pw_iret r_12_heal_19 rfl (Nat.le_refl _) ⟨rfl, ?_⟩
    first | exact h1 (by omega) | exact h2 (by omega) (by omega) (by omega) | exact h3 (by omega) (by omega) (by omega) (by omega)
  · skip
    refine pw_iload r_12_heal_8 rfl ?_
    refine pw_const r_12_heal_9 ?_
    refine pw_const r_12_heal_10 ?_
    refine pw_callS (av := [vI (g), vI (0), vI (9)]) (st := []) (ls0 := [some (vI (g)), some (vI (0)), some (vI (9))]) r_12_heal_12 rfl rfl rfl (Nat.le_refl _) ?_
    refine sp_X12_within  ?_
    refine pw_if_neB r_12_heal_15 (fun h15 => ?_) (fun h15 => ?_)
    · skip
      refine pw_aload r_12_heal_20 rfl ?_
      refine pw_getR r_12_heal_21 fs_12_8 (by decide) ?_
      refine pw_iload r_12_heal_24 rfl ?_
      refine pw_iald r_12_heal_25 sh206 (by omega) (by omega) ?_
      refine pw_if_ne r_12_heal_26 (fun h26 => ?_) (fun h26 => ?_)
      · skip
        refine pw_const r_12_heal_39 ?_
        refine pw_iret r_12_heal_41 rfl (Nat.le_refl _) ⟨rfl, ?_⟩
        first | exact h1 (by omega) | exact h2 (by omega) (by omega) (by omega) | exact h3 (by omega) (by omega) (by omega) (by omega)
      · skip
        refine pw_iload r_12_heal_29 rfl ?_
        refine pw_aload r_12_heal_30 rfl ?_
        refine pw_getR r_12_heal_31 fs_12_12 (by decide) ?_
        refine pw_iload r_12_heal_34 rfl ?_
        refine pw_iald r_12_heal_35 sh210 (by omega) (by omega) ?_
        refine pw_icmp_lt r_12_heal_36 (fun h36 => ?_) (fun h36 => ?_)
        · skip
          refine pw_aload r_12_heal_42 rfl ?_
          refine pw_getR r_12_heal_43 fs_12_12 (by decide) ?_
          refine pw_iload r_12_heal_46 rfl ?_
          refine pw_iald r_12_heal_47 sh210 (by omega) (by omega) ?_
          refine pw_istore (ls' := [some (vR 12 (0)), some (vI (p)), some (vI (g)), some (vI (gA G 210 (0) (p)))]) r_12_heal_48 rfl rfl ?_
          refine pw_aload r_12_heal_49 rfl ?_
          refine pw_getR r_12_heal_50 fs_12_12 (by decide) ?_
          refine pw_iload r_12_heal_53 rfl ?_
          refine pw_iload r_12_heal_54 rfl ?_
          refine pw_iast r_12_heal_55 sh210 (by omega) (by omega) ?_
          refine pw_aload r_12_heal_56 rfl ?_
          refine pw_getR r_12_heal_57 fs_12_13 (by decide) ?_
          refine pw_iload r_12_heal_60 rfl ?_
          refine pw_aload r_12_heal_61 rfl ?_
          refine pw_getIv (v := gF G 12 (0) 0) r_12_heal_62 fs_12_0 (by decide) (by first | rfl | simp [gF_sF, gF_sA, gF_uA, gF_sD, gA_sF, gA_sA, gA_uA, gA_sD, gD_sF, gD_sA, gD_uA, gD_sD]) ?_
          refine pw_iast r_12_heal_65 sh211 (by omega) (by omega) ?_
          refine pw_iload r_12_heal_66 rfl ?_
          refine pw_iret r_12_heal_67 rfl (Nat.le_refl _) ⟨rfl, ?_⟩
          first | exact h1 (by omega) | exact h2 (by omega) (by omega) (by omega) | exact h3 (by omega) (by omega) (by omega) (by omega)
        · skip
          refine pw_const r_12_heal_39 ?_
          refine pw_iret r_12_heal_41 rfl (Nat.le_refl _) ⟨rfl, ?_⟩
          first | exact h1 (by omega) | exact h2 (by omega) (by omega) (by omega) | exact h3 (by omega) (by omega) (by omega) (by omega)
    · skip
      refine pw_const r_12_heal_18 ?_
      refine pw_iret r_12_heal_19 rfl (Nat.le_refl _) ⟨rfl, ?_⟩
      first | exact h1 (by omega) | exact h2 (by omega) (by omega) (by omega) | exact h3 (by omega) (by omega) (by omega) (by omega)
set_option maxRecDepth 10000 in
theorem sp_X1_mayTurn {l : Launch} {w : Wo} {d : Nat} {G : PH} {P : Option PV → PH → Prop} {f t : Int} (hP : P (some (vI (b2i (((t = 4 ∧ f = 2) ∨ (t = 5 ∧ (f = 3 ∨ f = 4)) ∨ ((t = 6 ∨ t = 7) ∧ f = 0) ∨ (¬ (4 ≤ t ∧ t ≤ 7) ∧ f ≤ 4)))))) G) : PW l w M_X1_mayTurn (d + 0) 0 [some (vR 1 (0)), some (vI (f)), some (vI (t))] [] G P := by
  refine pw_iload r_1_mayTurn_0 rfl ?_
  refine pw_tswitch r_1_mayTurn_1 ?_
  refine pw_swt (fun h01 => ?_) (fun h01_4 => ?_)
  · skip
    refine pw_iload r_1_mayTurn_32 rfl ?_
    refine pw_const r_1_mayTurn_33 ?_
    refine pw_icmp_ne r_1_mayTurn_34 (fun h34 => ?_) (fun h34 => ?_)
    · skip
      refine pw_const r_1_mayTurn_41 ?_
      refine pw_zret r_1_mayTurn_42 rfl (Or.inl rfl) (Nat.le_refl _) ⟨rfl, ?_⟩
      exact pe hP (by first | rfl | omega | exact (b2i_t (by omega)).symm | exact (b2i_f (by omega)).symm)
    · skip
      refine pw_const r_1_mayTurn_37 ?_
      refine pw_goto r_1_mayTurn_38 ?_
      refine pw_zret r_1_mayTurn_42 rfl (Or.inr rfl) (Nat.le_refl _) ⟨rfl, ?_⟩
      exact pe hP (by first | rfl | omega | exact (b2i_t (by omega)).symm | exact (b2i_f (by omega)).symm)
  refine pw_swt (fun h01 => ?_) (fun h01_5 => ?_)
  · skip
    refine pw_iload r_1_mayTurn_43 rfl ?_
    refine pw_const r_1_mayTurn_44 ?_
    refine pw_icmp_eq r_1_mayTurn_45 (fun h45 => ?_) (fun h45 => ?_)
    · skip
      refine pw_const r_1_mayTurn_53 ?_
      refine pw_goto r_1_mayTurn_54 ?_
      refine pw_zret r_1_mayTurn_58 rfl (Or.inr rfl) (Nat.le_refl _) ⟨rfl, ?_⟩
      exact pe hP (by first | rfl | omega | exact (b2i_t (by omega)).symm | exact (b2i_f (by omega)).symm)
    · skip
      refine pw_iload r_1_mayTurn_48 rfl ?_
      refine pw_const r_1_mayTurn_49 ?_
      refine pw_icmp_ne r_1_mayTurn_50 (fun h50 => ?_) (fun h50 => ?_)
      · skip
        refine pw_const r_1_mayTurn_57 ?_
        refine pw_zret r_1_mayTurn_58 rfl (Or.inl rfl) (Nat.le_refl _) ⟨rfl, ?_⟩
        exact pe hP (by first | rfl | omega | exact (b2i_t (by omega)).symm | exact (b2i_f (by omega)).symm)
      · skip
        refine pw_const r_1_mayTurn_53 ?_
        refine pw_goto r_1_mayTurn_54 ?_
        refine pw_zret r_1_mayTurn_58 rfl (Or.inr rfl) (Nat.le_refl _) ⟨rfl, ?_⟩
        exact pe hP (by first | rfl | omega | exact (b2i_t (by omega)).symm | exact (b2i_f (by omega)).symm)
  refine pw_swt (fun h01 => ?_) (fun h01_6 => ?_)
  · skip
    refine pw_iload r_1_mayTurn_59 rfl ?_
    refine pw_if_ne r_1_mayTurn_60 (fun h60 => ?_) (fun h60 => ?_)
    · skip
      refine pw_const r_1_mayTurn_67 ?_
      refine pw_zret r_1_mayTurn_68 rfl (Or.inl rfl) (Nat.le_refl _) ⟨rfl, ?_⟩
      exact pe hP (by first | rfl | omega | exact (b2i_t (by omega)).symm | exact (b2i_f (by omega)).symm)
    · skip
      refine pw_const r_1_mayTurn_63 ?_
      refine pw_goto r_1_mayTurn_64 ?_
      refine pw_zret r_1_mayTurn_68 rfl (Or.inr rfl) (Nat.le_refl _) ⟨rfl, ?_⟩
      exact pe hP (by first | rfl | omega | exact (b2i_t (by omega)).symm | exact (b2i_f (by omega)).symm)
  refine pw_swt (fun h01 => ?_) (fun h01_7 => ?_)
  · skip
    refine pw_iload r_1_mayTurn_59 rfl ?_
    refine pw_if_ne r_1_mayTurn_60 (fun h60 => ?_) (fun h60 => ?_)
    · skip
      refine pw_const r_1_mayTurn_67 ?_
      refine pw_zret r_1_mayTurn_68 rfl (Or.inl rfl) (Nat.le_refl _) ⟨rfl, ?_⟩
      exact pe hP (by first | rfl | omega | exact (b2i_t (by omega)).symm | exact (b2i_f (by omega)).symm)
    · skip
      refine pw_const r_1_mayTurn_63 ?_
      refine pw_goto r_1_mayTurn_64 ?_
      refine pw_zret r_1_mayTurn_68 rfl (Or.inr rfl) (Nat.le_refl _) ⟨rfl, ?_⟩
      exact pe hP (by first | rfl | omega | exact (b2i_t (by omega)).symm | exact (b2i_f (by omega)).symm)
  refine pw_swd ?_
  refine pw_iload r_1_mayTurn_69 rfl ?_
  refine pw_const r_1_mayTurn_70 ?_
  refine pw_icmp_gt r_1_mayTurn_71 (fun h71 => ?_) (fun h71 => ?_)
  · skip
    refine pw_const r_1_mayTurn_78 ?_
    refine pw_zret r_1_mayTurn_79 rfl (Or.inl rfl) (Nat.le_refl _) ⟨rfl, ?_⟩
    exact pe hP (by first | rfl | omega | exact (b2i_t (by omega)).symm | exact (b2i_f (by omega)).symm)
  · skip
    refine pw_const r_1_mayTurn_74 ?_
    refine pw_goto r_1_mayTurn_75 ?_
    refine pw_zret r_1_mayTurn_79 rfl (Or.inr rfl) (Nat.le_refl _) ⟨rfl, ?_⟩
    exact pe hP (by first | rfl | omega | exact (b2i_t (by omega)).symm | exact (b2i_f (by omega)).symm)
set_option maxRecDepth 10000 in
theorem sp_X1_turn {l : Launch} {w : Wo} {d : Nat} {G : PH} {P : Option PV → PH → Prop} {p s : Int} (hp : ∀ i, 0 ≤ i → i < (gF G 1 0 1) → gD G 30 0 i = some (3, i)) (hsz : 0 ≤ (gF G 1 0 1) ∧ (gF G 1 0 1) ≤ 150) (hst : 0 ≤ (gF G 1 0 3) ∧ (gF G 1 0 3) ≤ 400) (hnum : (0 ≤ p ∧ p < (gF G 1 0 1)) → (gF G 3 (p) 0) = p) (h1 : ¬ ((0 ≤ p ∧ p < (gF G 1 0 1)) ∧ 4 ≤ s ∧ s ≤ 8) → P (some (vI (-1))) G) (h2 : (0 ≤ p ∧ p < (gF G 1 0 1)) → (4 ≤ s ∧ s ≤ 8) → ¬ ((s = 4 ∧ (gF G 3 (p) 8) = 2) ∨ (s = 5 ∧ ((gF G 3 (p) 8) = 3 ∨ (gF G 3 (p) 8) = 4)) ∨ ((s = 6 ∨ s = 7) ∧ (gF G 3 (p) 8) = 0) ∨ (¬ (4 ≤ s ∧ s ≤ 7) ∧ (gF G 3 (p) 8) ≤ 4)) → P (some (vI (-3))) G) (h3 : (0 ≤ p ∧ p < (gF G 1 0 1)) → (4 ≤ s ∧ s ≤ 8) → ((s = 4 ∧ (gF G 3 (p) 8) = 2) ∨ (s = 5 ∧ ((gF G 3 (p) 8) = 3 ∨ (gF G 3 (p) 8) = 4)) ∨ ((s = 6 ∨ s = 7) ∧ (gF G 3 (p) 8) = 0) ∨ (¬ (4 ≤ s ∧ s ≤ 7) ∧ (gF G 3 (p) 8) ≤ 4)) → P (some (vI 1)) (sF (sF (sF (sF (uA G 35 0 (filF (fun j0 => (gA G 32 0 (j0)) = p ∧ (gA G 35 0 (j0)) = -1) (fun j0 => (gF G 1 0 2)) (gA G 35 0) (gF G 1 0 3))) 3 (p) 8 (s)) 3 (p) 10 (-1)) 3 (p) 9 ((gF G 1 0 2))) 3 (p) 11 (-1))) : PW l w M_X1_turn (d + 2) 0 [some (vR 1 (0)), some (vI (p)), some (vI (s)), none] [] G P := by
  refine pw_aload r_1_turn_0 rfl ?_
  refine pw_iload r_1_turn_1 rfl ?_
  refine pw_callV (av := [vI (p)]) (st := []) (ls0 := [some (vR 1 (0)), some (vI (p))]) r_1_turn_2 rfl rfl rfl (Nat.le_refl _) ?_
  refine sp_X1_get (by first | assumption | exact hp | omega) (by first | assumption | exact hsz | omega) ?_ ?_
  · skip
    intros
    refine pw_astore (ls' := [some (vR 1 (0)), some (vI (p)), some (vI (s)), some (vN)]) r_1_turn_5 rfl rfl ?_
    refine pw_aload r_1_turn_6 rfl ?_
    refine pw_ifnull r_1_turn_7 (fun _ => ?_) (fun _ q => by cases q)
    refine pw_const r_1_turn_20 ?_
    refine pw_iret r_1_turn_21 rfl (Nat.le_refl _) ⟨rfl, ?_⟩
    first | exact h1 (by omega) | exact h2 (by omega) (by omega) (by omega) | exact h3 (by omega) (by omega) (by omega)
  · skip
    intros
    refine pw_astore (ls' := [some (vR 1 (0)), some (vI (p)), some (vI (s)), some (vR 3 (p))]) r_1_turn_5 rfl rfl ?_
    refine pw_aload r_1_turn_6 rfl ?_
    refine pw_ifnull r_1_turn_7 (fun q => by cases q) (fun _ _ => ?_)
    refine pw_iload r_1_turn_10 rfl ?_
    refine pw_const r_1_turn_11 ?_
    refine pw_const r_1_turn_12 ?_
    refine pw_callS (av := [vI (s), vI (4), vI (8)]) (st := []) (ls0 := [some (vI (s)), some (vI (4)), some (vI (8))]) r_1_turn_14 rfl rfl rfl (Nat.le_refl _) ?_
    refine sp_X11_within  ?_
    refine pw_if_neB r_1_turn_17 (fun h17 => ?_) (fun h17 => ?_)
    · skip
      refine pw_aload r_1_turn_22 rfl ?_
      refine pw_aload r_1_turn_23 rfl ?_
      refine pw_getI r_1_turn_24 fs_3_8 (by decide) ?_
      refine pw_iload r_1_turn_27 rfl ?_
      refine pw_callV (av := [vI (gF G 3 (p) 8), vI (s)]) (st := []) (ls0 := [some (vR 1 (0)), some (vI (gF G 3 (p) 8)), some (vI (s))]) r_1_turn_28 rfl rfl rfl (Nat.le_refl _) ?_
      refine sp_X1_mayTurn  ?_
      refine pw_if_neB r_1_turn_31 (fun h31 => ?_) (fun h31 => ?_)
      · skip
        refine pw_aload r_1_turn_37 rfl ?_
        refine pw_aload r_1_turn_38 rfl ?_
        refine pw_iload r_1_turn_39 rfl ?_
        refine pw_callV (av := [vR 3 (p), vI (s)]) (st := []) (ls0 := [some (vR 1 (0)), some (vR 3 (p)), some (vI (s)), none]) r_1_turn_40 rfl rfl rfl (Nat.le_refl _) ?_
        refine sp_X1_leave (by first | assumption | exact hst | omega) (hnum (by omega)) ?_
        refine pw_eqG (G' := sF (sF (sF (sF (uA G 35 (0) (filF (fun j0 => (gA G 32 (0) (j0)) = p ∧ (gA G 35 (0) (j0)) = -1) (fun j0 => (gF G 1 (0) 2)) (gA G 35 0) (gF G 1 (0) 3))) 3 (p) 8 (s)) 3 (p) 10 (-1)) 3 (p) 9 ((gF G 1 (0) 2))) 3 (p) 11 (-1)) (by first | rfl | simp (disch := decide) [gF_sF, gF_sA, gF_uA, gF_sD, gA_sF, gA_sA, gA_uA, gA_sD, gD_sF, gD_sA, gD_uA, gD_sD]) ?_
        refine pw_const r_1_turn_43 ?_
        refine pw_iret r_1_turn_44 rfl (Nat.le_refl _) ⟨rfl, ?_⟩
        first | exact h1 (by omega) | exact h2 (by omega) (by omega) (by omega) | exact h3 (by omega) (by omega) (by omega)
      · skip
        refine pw_const r_1_turn_34 ?_
        refine pw_iret r_1_turn_36 rfl (Nat.le_refl _) ⟨rfl, ?_⟩
        first | exact h1 (by omega) | exact h2 (by omega) (by omega) (by omega) | exact h3 (by omega) (by omega) (by omega)
    · skip
      refine pw_const r_1_turn_20 ?_
      refine pw_iret r_1_turn_21 rfl (Nat.le_refl _) ⟨rfl, ?_⟩
      first | exact h1 (by omega) | exact h2 (by omega) (by omega) (by omega) | exact h3 (by omega) (by omega) (by omega)
set_option maxRecDepth 10000 in
theorem sp_X12_becomes {l : Launch} {w : Wo} {d : Nat} {G : PH} {P : Option PV → PH → Prop} {p s : Int} (hst : 0 ≤ (gF G 12 0 22) ∧ (gF G 12 0 22) ≤ 400) (hp : 0 ≤ p ∧ p < 150) (h1 : (gA G 206 0 (p)) ≠ 0 → P none (sA (sA (sA G 206 0 (p) (s)) 213 0 (p) ((gF G 12 0 0))) 214 0 (p) (-1))) (h2 : (gA G 206 0 (p)) = 0 → P none (sA (sA (sA (uA G 218 0 (filF (fun j0 => (gA G 215 0 (j0)) = p ∧ (gA G 218 0 (j0)) < 0) (fun j0 => (gF G 12 0 0)) (gA G 218 0) (gF G 12 0 22))) 206 0 (p) (s)) 213 0 (p) ((gF G 12 0 0))) 214 0 (p) (-1))) : PW l w M_X12_becomes (d + 0) 0 [some (vR 12 (0)), some (vI (p)), some (vI (s)), none] [] G P := by
  refine pw_aload r_12_becomes_0 rfl ?_
  refine pw_getR r_12_becomes_1 fs_12_8 (by decide) ?_
  refine pw_iload r_12_becomes_4 rfl ?_
  refine pw_iald r_12_becomes_5 sh206 (by omega) (by omega) ?_
  refine pw_if_ne r_12_becomes_6 (fun h06 => ?_) (fun h06 => ?_)
  · skip
    refine pw_aload r_12_becomes_54 rfl ?_
    refine pw_getR r_12_becomes_55 fs_12_8 (by decide) ?_
    refine pw_iload r_12_becomes_58 rfl ?_
    refine pw_iload r_12_becomes_59 rfl ?_
    refine pw_iast r_12_becomes_60 sh206 (by omega) (by omega) ?_
    refine pw_aload r_12_becomes_61 rfl ?_
    refine pw_getR r_12_becomes_62 fs_12_15 (by decide) ?_
    refine pw_iload r_12_becomes_65 rfl ?_
    refine pw_aload r_12_becomes_66 rfl ?_
    refine pw_getIv (v := gF G 12 (0) 0) r_12_becomes_67 fs_12_0 (by decide) (by first | rfl | simp [gF_sF, gF_sA, gF_uA, gF_sD, gA_sF, gA_sA, gA_uA, gA_sD, gD_sF, gD_sA, gD_uA, gD_sD]) ?_
    refine pw_iast r_12_becomes_70 sh213 (by omega) (by omega) ?_
    refine pw_aload r_12_becomes_71 rfl ?_
    refine pw_getR r_12_becomes_72 fs_12_16 (by decide) ?_
    refine pw_iload r_12_becomes_75 rfl ?_
    refine pw_const r_12_becomes_76 ?_
    refine pw_iast r_12_becomes_77 sh214 (by omega) (by omega) ?_
    refine pw_vret r_12_becomes_78 rfl (Nat.le_refl _) ⟨rfl, ?_⟩
    first | exact h1 (by omega) | exact h2 (by omega)
  · skip
    refine pw_const r_12_becomes_9 ?_
    refine pw_istore (ls' := [some (vR 12 (0)), some (vI (p)), some (vI (s)), some (vI (0))]) r_12_becomes_10 rfl rfl ?_
    have L11 : ∀ (nF : Nat) (i : Int), (hi : 0 ≤ i ∧ i ≤ (gF G 12 0 22)) → ((gF G 12 0 22) - i).toNat < nF → PW l w M_X12_becomes (d + 0) 11 [some (vR 12 (0)), some (vI (p)), some (vI (s)), some (vI (i))] [] (uA G 218 (0) (filF (fun j0 => (gA G 215 0 (j0)) = p ∧ (gA G 218 0 (j0)) < 0) (fun j0 => (gF G 12 0 0)) (gA G 218 0) i)) P := by
      intro nF
      induction nF with
      | zero => intro _ _ hM; exact absurd hM (Nat.not_lt_zero _)
      | succ nF ih11 =>
        intro i hi hM11
        refine pw_iload r_12_becomes_11 rfl ?_
        refine pw_aload r_12_becomes_12 rfl ?_
        refine pw_getIv (v := gF G 12 (0) 22) r_12_becomes_13 fs_12_22 (by decide) (by first | rfl | simp [gF_sF, gF_sA, gF_uA, gF_sD, gA_sF, gA_sA, gA_uA, gA_sD, gD_sF, gD_sA, gD_uA, gD_sD]) ?_
        refine pw_icmp_ge r_12_becomes_16 (fun h16 => ?_) (fun h16 => ?_)
        · skip
          have ei : i = (gF G 12 0 22) := by omega
          subst ei
          refine pw_aload r_12_becomes_54 rfl ?_
          refine pw_getR r_12_becomes_55 fs_12_8 (by decide) ?_
          refine pw_iload r_12_becomes_58 rfl ?_
          refine pw_iload r_12_becomes_59 rfl ?_
          refine pw_iast r_12_becomes_60 sh206 (by omega) (by omega) ?_
          refine pw_aload r_12_becomes_61 rfl ?_
          refine pw_getR r_12_becomes_62 fs_12_15 (by decide) ?_
          refine pw_iload r_12_becomes_65 rfl ?_
          refine pw_aload r_12_becomes_66 rfl ?_
          refine pw_getIv (v := gF G 12 (0) 0) r_12_becomes_67 fs_12_0 (by decide) (by first | rfl | simp [gF_sF, gF_sA, gF_uA, gF_sD, gA_sF, gA_sA, gA_uA, gA_sD, gD_sF, gD_sA, gD_uA, gD_sD]) ?_
          refine pw_iast r_12_becomes_70 sh213 (by omega) (by omega) ?_
          refine pw_aload r_12_becomes_71 rfl ?_
          refine pw_getR r_12_becomes_72 fs_12_16 (by decide) ?_
          refine pw_iload r_12_becomes_75 rfl ?_
          refine pw_const r_12_becomes_76 ?_
          refine pw_iast r_12_becomes_77 sh214 (by omega) (by omega) ?_
          refine pw_vret r_12_becomes_78 rfl (Nat.le_refl _) ⟨rfl, ?_⟩
          first | exact h1 (by omega) | exact h2 (by omega)
        · skip
          refine pw_aload r_12_becomes_19 rfl ?_
          refine pw_getR r_12_becomes_20 fs_12_18 (by decide) ?_
          refine pw_iload r_12_becomes_23 rfl ?_
          refine pw_ialdv (v := gA G 215 (0) (i)) r_12_becomes_24 sh215 (by omega) (by omega) (by first | rfl | simp [gF_sF, gF_sA, gF_uA, gF_sD, gA_sF, gA_sA, gA_uA, gA_sD, gD_sF, gD_sA, gD_uA, gD_sD]) ?_
          refine pw_iload r_12_becomes_25 rfl ?_
          refine pw_icmp_ne r_12_becomes_26 (fun h26 => ?_) (fun h26 => ?_)
          · skip
            refine pw_iinc (b := 0) (ls' := [some (vR 12 (0)), some (vI (p)), some (vI (s)), some (vI ((i + 1)))]) r_12_becomes_48 rfl rfl (by omega) rfl ?_
            refine pw_goto r_12_becomes_51 ?_
            refine pw_eqG (G' := uA G 218 (0) (filF (fun j0 => (gA G 215 0 (j0)) = p ∧ (gA G 218 0 (j0)) < 0) (fun j0 => (gF G 12 0 0)) (gA G 218 0) (i + 1))) (by first | (rw [sA_uA, fil_s hi.1 (show (gA G 215 0 (i)) = p ∧ (gA G 218 0 (i)) < 0 by omega) (by first | rfl | omega)]) | (rw [fil_k (show ¬ ((gA G 215 0 (i)) = p ∧ (gA G 218 0 (i)) < 0) by omega)])) ?_
            exact ih11 ((i + 1)) (by omega) (by omega)
          · skip
            refine pw_aload r_12_becomes_29 rfl ?_
            refine pw_getR r_12_becomes_30 fs_12_21 (by decide) ?_
            refine pw_iload r_12_becomes_33 rfl ?_
            refine pw_ialdv (v := (filF (fun j0 => (gA G 215 0 (j0)) = p ∧ (gA G 218 0 (j0)) < 0) (fun j0 => (gF G 12 0 0)) (gA G 218 0) i) (i)) r_12_becomes_34 sh218 (by omega) (by omega) (by first | rfl | simp [gF_sF, gF_sA, gF_uA, gF_sD, gA_sF, gA_sA, gA_uA, gA_sD, gD_sF, gD_sA, gD_uA, gD_sD]) ?_
            refine pw_top (b := (gA G 218 0 (i))) (fil_at) ?_
            refine pw_if_ge r_12_becomes_35 (fun h35 => ?_) (fun h35 => ?_)
            · skip
              refine pw_iinc (b := 0) (ls' := [some (vR 12 (0)), some (vI (p)), some (vI (s)), some (vI ((i + 1)))]) r_12_becomes_48 rfl rfl (by omega) rfl ?_
              refine pw_goto r_12_becomes_51 ?_
              refine pw_eqG (G' := uA G 218 (0) (filF (fun j0 => (gA G 215 0 (j0)) = p ∧ (gA G 218 0 (j0)) < 0) (fun j0 => (gF G 12 0 0)) (gA G 218 0) (i + 1))) (by first | (rw [sA_uA, fil_s hi.1 (show (gA G 215 0 (i)) = p ∧ (gA G 218 0 (i)) < 0 by omega) (by first | rfl | omega)]) | (rw [fil_k (show ¬ ((gA G 215 0 (i)) = p ∧ (gA G 218 0 (i)) < 0) by omega)])) ?_
              exact ih11 ((i + 1)) (by omega) (by omega)
            · skip
              refine pw_aload r_12_becomes_38 rfl ?_
              refine pw_getR r_12_becomes_39 fs_12_21 (by decide) ?_
              refine pw_iload r_12_becomes_42 rfl ?_
              refine pw_aload r_12_becomes_43 rfl ?_
              refine pw_getIv (v := gF G 12 (0) 0) r_12_becomes_44 fs_12_0 (by decide) (by first | rfl | simp [gF_sF, gF_sA, gF_uA, gF_sD, gA_sF, gA_sA, gA_uA, gA_sD, gD_sF, gD_sA, gD_uA, gD_sD]) ?_
              refine pw_iast r_12_becomes_47 sh218 (by omega) (by omega) ?_
              refine pw_iinc (b := 0) (ls' := [some (vR 12 (0)), some (vI (p)), some (vI (s)), some (vI ((i + 1)))]) r_12_becomes_48 rfl rfl (by omega) rfl ?_
              refine pw_goto r_12_becomes_51 ?_
              refine pw_eqG (G' := uA G 218 (0) (filF (fun j0 => (gA G 215 0 (j0)) = p ∧ (gA G 218 0 (j0)) < 0) (fun j0 => (gF G 12 0 0)) (gA G 218 0) (i + 1))) (by first | (rw [sA_uA, fil_s hi.1 (show (gA G 215 0 (i)) = p ∧ (gA G 218 0 (i)) < 0 by omega) (by first | rfl | omega)]) | (rw [fil_k (show ¬ ((gA G 215 0 (i)) = p ∧ (gA G 218 0 (i)) < 0) by omega)])) ?_
              exact ih11 ((i + 1)) (by omega) (by omega)
    refine pw_eqG (G' := uA G 218 (0) (filF (fun j0 => (gA G 215 0 (j0)) = p ∧ (gA G 218 0 (j0)) < 0) (fun j0 => (gF G 12 0 0)) (gA G 218 0) 0)) (by rw [fil_0]; exact (uA_self G 218 0).symm) ?_
    exact L11 _ (0) (by omega) (Nat.lt_succ_self _)
set_option maxRecDepth 10000 in
theorem sp_X12_become {l : Launch} {w : Wo} {d : Nat} {G : PH} {P : Option PV → PH → Prop} {p s : Int} (hsz : 0 ≤ (gF G 12 0 17) ∧ (gF G 12 0 17) ≤ 150) (hst : 0 ≤ (gF G 12 0 22) ∧ (gF G 12 0 22) ≤ 400) (h1 : ¬ ((0 ≤ p ∧ p < (gF G 12 0 17)) ∧ 4 ≤ s ∧ s ≤ 8) → P (some (vI (-1))) G) (h2 : (0 ≤ p ∧ p < (gF G 12 0 17)) → (4 ≤ s ∧ s ≤ 8) → ¬ ((s = 4 ∧ (gA G 206 0 (p)) = 2) ∨ (s = 5 ∧ ((gA G 206 0 (p)) = 3 ∨ (gA G 206 0 (p)) = 4)) ∨ ((s = 6 ∨ s = 7) ∧ (gA G 206 0 (p)) = 0) ∨ (¬ (4 ≤ s ∧ s ≤ 7) ∧ (gA G 206 0 (p)) ≤ 4)) → P (some (vI (-3))) G) (h3 : (0 ≤ p ∧ p < (gF G 12 0 17)) → (4 ≤ s ∧ s ≤ 8) → ((s = 4 ∧ (gA G 206 0 (p)) = 2) ∨ (s = 5 ∧ ((gA G 206 0 (p)) = 3 ∨ (gA G 206 0 (p)) = 4)) ∨ ((s = 6 ∨ s = 7) ∧ (gA G 206 0 (p)) = 0) ∨ (¬ (4 ≤ s ∧ s ≤ 7) ∧ (gA G 206 0 (p)) ≤ 4)) → (gA G 206 0 (p)) ≠ 0 → P (some (vI 1)) (sA (sA (sA G 206 0 (p) (s)) 213 0 (p) ((gF G 12 0 0))) 214 0 (p) (-1))) (h4 : (0 ≤ p ∧ p < (gF G 12 0 17)) → (4 ≤ s ∧ s ≤ 8) → ((s = 4 ∧ (gA G 206 0 (p)) = 2) ∨ (s = 5 ∧ ((gA G 206 0 (p)) = 3 ∨ (gA G 206 0 (p)) = 4)) ∨ ((s = 6 ∨ s = 7) ∧ (gA G 206 0 (p)) = 0) ∨ (¬ (4 ≤ s ∧ s ≤ 7) ∧ (gA G 206 0 (p)) ≤ 4)) → (gA G 206 0 (p)) = 0 → P (some (vI 1)) (sA (sA (sA (uA G 218 0 (filF (fun j0 => (gA G 215 0 (j0)) = p ∧ (gA G 218 0 (j0)) < 0) (fun j0 => (gF G 12 0 0)) (gA G 218 0) (gF G 12 0 22))) 206 0 (p) (s)) 213 0 (p) ((gF G 12 0 0))) 214 0 (p) (-1))) : PW l w M_X12_become (d + 1) 0 [some (vR 12 (0)), some (vI (p)), some (vI (s)), none, none] [] G P := by
  refine pw_aload r_12_become_0 rfl ?_
  refine pw_iload r_12_become_1 rfl ?_
  refine pw_callV (av := [vI (p)]) (st := []) (ls0 := [some (vR 12 (0)), some (vI (p))]) r_12_become_2 rfl rfl rfl (Nat.le_refl _) ?_
  refine sp_X12_isPerson  ?_
  refine pw_if_eqB r_12_become_5 (fun h05 => ?_) (fun h05 => ?_)
  · skip
    refine pw_const r_12_become_18 ?_
    refine pw_iret r_12_become_19 rfl (Nat.le_refl _) ⟨rfl, ?_⟩
    first | exact h1 (by omega) | exact h2 (by omega) (by omega) (by omega) | exact h3 (by omega) (by omega) (by omega) (by omega) | exact h4 (by omega) (by omega) (by omega) (by omega)
  · skip
    refine pw_iload r_12_become_8 rfl ?_
    refine pw_const r_12_become_9 ?_
    refine pw_const r_12_become_10 ?_
    refine pw_callS (av := [vI (s), vI (4), vI (8)]) (st := []) (ls0 := [some (vI (s)), some (vI (4)), some (vI (8))]) r_12_become_12 rfl rfl rfl (Nat.le_refl _) ?_
    refine sp_X12_within  ?_
    refine pw_if_neB r_12_become_15 (fun h15 => ?_) (fun h15 => ?_)
    · skip
      refine pw_aload r_12_become_20 rfl ?_
      refine pw_getR r_12_become_21 fs_12_8 (by decide) ?_
      refine pw_iload r_12_become_24 rfl ?_
      refine pw_iald r_12_become_25 sh206 (by omega) (by omega) ?_
      have L96 : ∀ (t : Int), (ht : (t = 1 ∧ ((s = 4 ∧ (gA G 206 0 (p)) = 2) ∨ (s = 5 ∧ ((gA G 206 0 (p)) = 3 ∨ (gA G 206 0 (p)) = 4)) ∨ ((s = 6 ∨ s = 7) ∧ (gA G 206 0 (p)) = 0) ∨ (¬ (4 ≤ s ∧ s ≤ 7) ∧ (gA G 206 0 (p)) ≤ 4))) ∨ (t = 0 ∧ ¬ ((s = 4 ∧ (gA G 206 0 (p)) = 2) ∨ (s = 5 ∧ ((gA G 206 0 (p)) = 3 ∨ (gA G 206 0 (p)) = 4)) ∨ ((s = 6 ∨ s = 7) ∧ (gA G 206 0 (p)) = 0) ∨ (¬ (4 ≤ s ∧ s ≤ 7) ∧ (gA G 206 0 (p)) ≤ 4)))) → PW l w M_X12_become (d + 1) 96 [some (vR 12 (0)), some (vI (p)), some (vI (s)), some (vI ((gA G 206 0 (p)))), none] [vI (t)] G P := by
        intro t ht
        refine pw_istore (ls' := [some (vR 12 (0)), some (vI (p)), some (vI (s)), some (vI ((gA G 206 0 (p)))), some (vI (t))]) r_12_become_96 rfl rfl ?_
        refine pw_iload r_12_become_98 rfl ?_
        refine pw_if_ne r_12_become_100 (fun h100 => ?_) (fun h100 => ?_)
        · skip
          refine pw_aload r_12_become_106 rfl ?_
          refine pw_iload r_12_become_107 rfl ?_
          refine pw_iload r_12_become_108 rfl ?_
          refine pw_callV (av := [vI (p), vI (s)]) (st := []) (ls0 := [some (vR 12 (0)), some (vI (p)), some (vI (s)), none]) r_12_become_109 rfl rfl rfl (Nat.le_refl _) ?_
          refine sp_X12_becomes (by first | assumption | exact hst | omega) (by first | assumption | exact hp | omega) ?_ ?_
          · skip
            intros
            refine pw_eqG (G' := sA (sA (sA G 206 (0) (p) (s)) 213 (0) (p) ((gF G 12 (0) 0))) 214 (0) (p) (-1)) (by first | rfl | simp (disch := decide) [gF_sF, gF_sA, gF_uA, gF_sD, gA_sF, gA_sA, gA_uA, gA_sD, gD_sF, gD_sA, gD_uA, gD_sD]) ?_
            refine pw_const r_12_become_112 ?_
            refine pw_iret r_12_become_113 rfl (Nat.le_refl _) ⟨rfl, ?_⟩
            first | exact h1 (by omega) | exact h2 (by omega) (by omega) (by omega) | exact h3 (by omega) (by omega) (by omega) (by omega) | exact h4 (by omega) (by omega) (by omega) (by omega)
          · skip
            intros
            refine pw_eqG (G' := sA (sA (sA (uA G 218 (0) (filF (fun j0 => (gA G 215 (0) (j0)) = p ∧ (gA G 218 (0) (j0)) < 0) (fun j0 => (gF G 12 (0) 0)) (gA G 218 0) (gF G 12 (0) 22))) 206 (0) (p) (s)) 213 (0) (p) ((gF G 12 (0) 0))) 214 (0) (p) (-1)) (by first | rfl | simp (disch := decide) [gF_sF, gF_sA, gF_uA, gF_sD, gA_sF, gA_sA, gA_uA, gA_sD, gD_sF, gD_sA, gD_uA, gD_sD]) ?_
            refine pw_const r_12_become_112 ?_
            refine pw_iret r_12_become_113 rfl (Nat.le_refl _) ⟨rfl, ?_⟩
            first | exact h1 (by omega) | exact h2 (by omega) (by omega) (by omega) | exact h3 (by omega) (by omega) (by omega) (by omega) | exact h4 (by omega) (by omega) (by omega) (by omega)
        · skip
          refine pw_const r_12_become_103 ?_
          refine pw_iret r_12_become_105 rfl (Nat.le_refl _) ⟨rfl, ?_⟩
          first | exact h1 (by omega) | exact h2 (by omega) (by omega) (by omega) | exact h3 (by omega) (by omega) (by omega) (by omega) | exact h4 (by omega) (by omega) (by omega) (by omega)
      refine pw_istore (ls' := [some (vR 12 (0)), some (vI (p)), some (vI (s)), some (vI (gA G 206 (0) (p))), none]) r_12_become_26 rfl rfl ?_
      refine pw_iload r_12_become_27 rfl ?_
      refine pw_const r_12_become_28 ?_
      refine pw_icmp_ne r_12_become_29 (fun h29 => ?_) (fun h29 => ?_)
      · skip
        refine pw_iload r_12_become_45 rfl ?_
        refine pw_const r_12_become_46 ?_
        refine pw_icmp_ne r_12_become_47 (fun h47 => ?_) (fun h47 => ?_)
        · skip
          refine pw_iload r_12_become_68 rfl ?_
          refine pw_const r_12_become_69 ?_
          refine pw_icmp_ne r_12_become_71 (fun h71 => ?_) (fun h71 => ?_)
          · skip
            refine pw_iload r_12_become_87 rfl ?_
            refine pw_if_ne r_12_become_88 (fun h88 => ?_) (fun h88 => ?_)
            · skip
              refine pw_const r_12_become_95 ?_
              refine pw_weakL (ls' := [some (vR 12 (0)), some (vI (p)), some (vI (s)), some (vI ((gA G 206 0 (p)))), none]) (⟨rfl, ⟨rfl, ⟨rfl, ⟨rfl, trivial⟩⟩⟩⟩) ?_
              exact L96 (0) (by omega) 
            · skip
              refine pw_const r_12_become_91 ?_
              refine pw_goto r_12_become_92 ?_
              refine pw_weakL (ls' := [some (vR 12 (0)), some (vI (p)), some (vI (s)), some (vI ((gA G 206 0 (p)))), none]) (⟨rfl, ⟨rfl, ⟨rfl, ⟨rfl, trivial⟩⟩⟩⟩) ?_
              exact L96 (1) (by omega) 
          · skip
            refine pw_iload r_12_become_74 rfl ?_
            refine pw_const r_12_become_75 ?_
            refine pw_icmp_gt r_12_become_76 (fun h76 => ?_) (fun h76 => ?_)
            · skip
              refine pw_const r_12_become_83 ?_
              refine pw_goto r_12_become_84 ?_
              refine pw_weakL (ls' := [some (vR 12 (0)), some (vI (p)), some (vI (s)), some (vI ((gA G 206 0 (p)))), none]) (⟨rfl, ⟨rfl, ⟨rfl, ⟨rfl, trivial⟩⟩⟩⟩) ?_
              exact L96 (0) (by omega) 
            · skip
              refine pw_const r_12_become_79 ?_
              refine pw_goto r_12_become_80 ?_
              refine pw_weakL (ls' := [some (vR 12 (0)), some (vI (p)), some (vI (s)), some (vI ((gA G 206 0 (p)))), none]) (⟨rfl, ⟨rfl, ⟨rfl, ⟨rfl, trivial⟩⟩⟩⟩) ?_
              exact L96 (1) (by omega) 
        · skip
          refine pw_iload r_12_become_50 rfl ?_
          refine pw_const r_12_become_51 ?_
          refine pw_icmp_eq r_12_become_52 (fun h52 => ?_) (fun h52 => ?_)
          · skip
            refine pw_const r_12_become_60 ?_
            refine pw_goto r_12_become_61 ?_
            refine pw_weakL (ls' := [some (vR 12 (0)), some (vI (p)), some (vI (s)), some (vI ((gA G 206 0 (p)))), none]) (⟨rfl, ⟨rfl, ⟨rfl, ⟨rfl, trivial⟩⟩⟩⟩) ?_
            exact L96 (1) (by omega) 
          · skip
            refine pw_iload r_12_become_55 rfl ?_
            refine pw_const r_12_become_56 ?_
            refine pw_icmp_ne r_12_become_57 (fun h57 => ?_) (fun h57 => ?_)
            · skip
              refine pw_const r_12_become_64 ?_
              refine pw_goto r_12_become_65 ?_
              refine pw_weakL (ls' := [some (vR 12 (0)), some (vI (p)), some (vI (s)), some (vI ((gA G 206 0 (p)))), none]) (⟨rfl, ⟨rfl, ⟨rfl, ⟨rfl, trivial⟩⟩⟩⟩) ?_
              exact L96 (0) (by omega) 
            · skip
              refine pw_const r_12_become_60 ?_
              refine pw_goto r_12_become_61 ?_
              refine pw_weakL (ls' := [some (vR 12 (0)), some (vI (p)), some (vI (s)), some (vI ((gA G 206 0 (p)))), none]) (⟨rfl, ⟨rfl, ⟨rfl, ⟨rfl, trivial⟩⟩⟩⟩) ?_
              exact L96 (1) (by omega) 
      · skip
        refine pw_iload r_12_become_32 rfl ?_
        refine pw_const r_12_become_33 ?_
        refine pw_icmp_ne r_12_become_34 (fun h34 => ?_) (fun h34 => ?_)
        · skip
          refine pw_const r_12_become_41 ?_
          refine pw_goto r_12_become_42 ?_
          refine pw_weakL (ls' := [some (vR 12 (0)), some (vI (p)), some (vI (s)), some (vI ((gA G 206 0 (p)))), none]) (⟨rfl, ⟨rfl, ⟨rfl, ⟨rfl, trivial⟩⟩⟩⟩) ?_
          exact L96 (0) (by omega) 
        · skip
          refine pw_const r_12_become_37 ?_
          refine pw_goto r_12_become_38 ?_
          refine pw_weakL (ls' := [some (vR 12 (0)), some (vI (p)), some (vI (s)), some (vI ((gA G 206 0 (p)))), none]) (⟨rfl, ⟨rfl, ⟨rfl, ⟨rfl, trivial⟩⟩⟩⟩) ?_
          exact L96 (1) (by omega) 
    · skip
      refine pw_const r_12_become_18 ?_
      refine pw_iret r_12_become_19 rfl (Nat.le_refl _) ⟨rfl, ?_⟩
      first | exact h1 (by omega) | exact h2 (by omega) (by omega) (by omega) | exact h3 (by omega) (by omega) (by omega) (by omega) | exact h4 (by omega) (by omega) (by omega) (by omega)
set_option maxRecDepth 10000 in
theorem sp_X12_enters {l : Launch} {w : Wo} {d : Nat} {G : PH} {P : Option PV → PH → Prop} {p c : Int} (hp : 0 ≤ p ∧ p < 150) (hst : 0 ≤ (gF G 12 0 22) ∧ (gF G 12 0 22) < 400) (hP : P none (sF (sA (sA (sA (sA (sA (sA (sA (sA G 206 0 (p) (0)) 207 0 (p) (c)) 213 0 (p) ((gF G 12 0 0))) 214 0 (p) (-1)) 215 0 ((gF G 12 0 22)) (p)) 216 0 ((gF G 12 0 22)) (c)) 217 0 ((gF G 12 0 22)) ((gF G 12 0 0))) 218 0 ((gF G 12 0 22)) (-1)) 12 0 22 ((gF G 12 0 22) + 1))) : PW l w M_X12_enters (d + 0) 0 [some (vR 12 (0)), some (vI (p)), some (vI (c))] [] G P := by
  refine pw_aload r_12_enters_0 rfl ?_
  refine pw_getR r_12_enters_1 fs_12_8 (by decide) ?_
  refine pw_iload r_12_enters_4 rfl ?_
  refine pw_const r_12_enters_5 ?_
  refine pw_iast r_12_enters_6 sh206 (by omega) (by omega) ?_
  refine pw_aload r_12_enters_7 rfl ?_
  refine pw_getR r_12_enters_8 fs_12_9 (by decide) ?_
  refine pw_iload r_12_enters_11 rfl ?_
  refine pw_iload r_12_enters_12 rfl ?_
  refine pw_iast r_12_enters_13 sh207 (by omega) (by omega) ?_
  refine pw_aload r_12_enters_14 rfl ?_
  refine pw_getR r_12_enters_15 fs_12_15 (by decide) ?_
  refine pw_iload r_12_enters_18 rfl ?_
  refine pw_aload r_12_enters_19 rfl ?_
  refine pw_getIv (v := gF G 12 (0) 0) r_12_enters_20 fs_12_0 (by decide) (by first | rfl | simp [gF_sF, gF_sA, gF_uA, gF_sD, gA_sF, gA_sA, gA_uA, gA_sD, gD_sF, gD_sA, gD_uA, gD_sD]) ?_
  refine pw_iast r_12_enters_23 sh213 (by omega) (by omega) ?_
  refine pw_aload r_12_enters_24 rfl ?_
  refine pw_getR r_12_enters_25 fs_12_16 (by decide) ?_
  refine pw_iload r_12_enters_28 rfl ?_
  refine pw_const r_12_enters_29 ?_
  refine pw_iast r_12_enters_30 sh214 (by omega) (by omega) ?_
  refine pw_aload r_12_enters_31 rfl ?_
  refine pw_getR r_12_enters_32 fs_12_18 (by decide) ?_
  refine pw_aload r_12_enters_35 rfl ?_
  refine pw_getIv (v := gF G 12 (0) 22) r_12_enters_36 fs_12_22 (by decide) (by first | rfl | simp [gF_sF, gF_sA, gF_uA, gF_sD, gA_sF, gA_sA, gA_uA, gA_sD, gD_sF, gD_sA, gD_uA, gD_sD]) ?_
  refine pw_iload r_12_enters_39 rfl ?_
  refine pw_iast r_12_enters_40 sh215 (by omega) (by omega) ?_
  refine pw_aload r_12_enters_41 rfl ?_
  refine pw_getR r_12_enters_42 fs_12_19 (by decide) ?_
  refine pw_aload r_12_enters_45 rfl ?_
  refine pw_getIv (v := gF G 12 (0) 22) r_12_enters_46 fs_12_22 (by decide) (by first | rfl | simp [gF_sF, gF_sA, gF_uA, gF_sD, gA_sF, gA_sA, gA_uA, gA_sD, gD_sF, gD_sA, gD_uA, gD_sD]) ?_
  refine pw_iload r_12_enters_49 rfl ?_
  refine pw_iast r_12_enters_50 sh216 (by omega) (by omega) ?_
  refine pw_aload r_12_enters_51 rfl ?_
  refine pw_getR r_12_enters_52 fs_12_20 (by decide) ?_
  refine pw_aload r_12_enters_55 rfl ?_
  refine pw_getIv (v := gF G 12 (0) 22) r_12_enters_56 fs_12_22 (by decide) (by first | rfl | simp [gF_sF, gF_sA, gF_uA, gF_sD, gA_sF, gA_sA, gA_uA, gA_sD, gD_sF, gD_sA, gD_uA, gD_sD]) ?_
  refine pw_aload r_12_enters_59 rfl ?_
  refine pw_getIv (v := gF G 12 (0) 0) r_12_enters_60 fs_12_0 (by decide) (by first | rfl | simp [gF_sF, gF_sA, gF_uA, gF_sD, gA_sF, gA_sA, gA_uA, gA_sD, gD_sF, gD_sA, gD_uA, gD_sD]) ?_
  refine pw_iast r_12_enters_63 sh217 (by omega) (by omega) ?_
  refine pw_aload r_12_enters_64 rfl ?_
  refine pw_getR r_12_enters_65 fs_12_21 (by decide) ?_
  refine pw_aload r_12_enters_68 rfl ?_
  refine pw_getIv (v := gF G 12 (0) 22) r_12_enters_69 fs_12_22 (by decide) (by first | rfl | simp [gF_sF, gF_sA, gF_uA, gF_sD, gA_sF, gA_sA, gA_uA, gA_sD, gD_sF, gD_sA, gD_uA, gD_sD]) ?_
  refine pw_const r_12_enters_72 ?_
  refine pw_iast r_12_enters_73 sh218 (by omega) (by omega) ?_
  refine pw_aload r_12_enters_74 rfl ?_
  refine pw_dup r_12_enters_75 rfl ?_
  refine pw_getIv (v := gF G 12 (0) 22) r_12_enters_76 fs_12_22 (by decide) (by first | rfl | simp [gF_sF, gF_sA, gF_uA, gF_sD, gA_sF, gA_sA, gA_uA, gA_sD, gD_sF, gD_sA, gD_uA, gD_sD]) ?_
  refine pw_const r_12_enters_79 ?_
  refine pw_iadd r_12_enters_80 (by omega) ?_
  refine pw_putI r_12_enters_81 (by decide +kernel) fs_12_22 (by decide) ?_
  refine pw_vret r_12_enters_84 rfl (Nat.le_refl _) ⟨rfl, ?_⟩
  exact hP
set_option maxRecDepth 10000 in
theorem sp_X1_tell {l : Launch} {w : Wo} {d : Nat} {G : PH} {P : Option PV → PH → Prop} {p k : Int} (hp : ∀ i, 0 ≤ i → i < (gF G 1 0 1) → gD G 30 0 i = some (3, i)) (hsz : 0 ≤ (gF G 1 0 1) ∧ (gF G 1 0 1) ≤ 150) (hst : 0 ≤ (gF G 1 0 3) ∧ (gF G 1 0 3) ≤ 400) (h1 : ¬ (0 ≤ p ∧ p < (gF G 1 0 1)) → P (some (vI (-2000000000))) G) (h2 : (0 ≤ p ∧ p < (gF G 1 0 1)) → ∀ v, ((k = 0 ∧ v = (gF G 3 (p) 1)) ∨ (k = 1 ∧ v = (gF G 3 (p) 2)) ∨ (k = 2 ∧ v = (gF G 3 (p) 8)) ∨ (k = 3 ∧ v = (gF G 3 (p) 10)) ∨ (k = 4 ∧ v = (gF G 3 (p) 3)) ∨ (k = 5 ∧ v = (gF G 3 (p) 4)) ∨ (k = 6 ∧ v = (gF G 3 (p) 6)) ∨ (k = 7 ∧ v = (gF G 3 (p) 5)) ∨ (k = 8 ∧ v = (gF G 3 (p) 9)) ∨ (k = 9 ∧ v = cnt (fun i => (gA G 32 0 (i)) = p) (gF G 1 0 3)) ∨ (k = 10 ∧ v = (gF G 3 (p) 11)) ∨ (¬ (k = 0 ∨ k = 1 ∨ k = 2 ∨ k = 3 ∨ k = 4 ∨ k = 5 ∨ k = 6 ∨ k = 7 ∨ k = 8 ∨ k = 9 ∨ k = 10) ∧ v = -2000000000)) → P (some (vI v)) G) : PW l w M_X1_tell (d + 1) 0 [some (vR 1 (0)), some (vI (p)), some (vI (k)), none] [] G P := by
  refine pw_aload r_1_tell_0 rfl ?_
  refine pw_iload r_1_tell_1 rfl ?_
  refine pw_callV (av := [vI (p)]) (st := []) (ls0 := [some (vR 1 (0)), some (vI (p))]) r_1_tell_2 rfl rfl rfl (Nat.le_refl _) ?_
  refine sp_X1_get (by first | assumption | exact hp | omega) (by first | assumption | exact hsz | omega) ?_ ?_
  · skip
    intros
    refine pw_astore (ls' := [some (vR 1 (0)), some (vI (p)), some (vI (k)), some (vN)]) r_1_tell_5 rfl rfl ?_
    refine pw_aload r_1_tell_6 rfl ?_
    refine pw_ifnonnull r_1_tell_7 (fun _ q => by cases q) (fun _ => ?_)
    refine pw_const r_1_tell_10 ?_
    refine pw_iret r_1_tell_12 rfl (Nat.le_refl _) ⟨rfl, ?_⟩
    exact h1 (by omega)
  · skip
    intros
    refine pw_astore (ls' := [some (vR 1 (0)), some (vI (p)), some (vI (k)), some (vR 3 (p))]) r_1_tell_5 rfl rfl ?_
    refine pw_aload r_1_tell_6 rfl ?_
    refine pw_ifnonnull r_1_tell_7 (fun _ _ => ?_) (fun q => by cases q)
    refine pw_iload r_1_tell_13 rfl ?_
    refine pw_tswitch r_1_tell_14 ?_
    refine pw_swt (fun h14 => ?_) (fun h14_0 => ?_)
    · skip
      refine pw_aload r_1_tell_72 rfl ?_
      refine pw_getI r_1_tell_73 fs_3_1 (by decide) ?_
      refine pw_iret r_1_tell_76 rfl (Nat.le_refl _) ⟨rfl, ?_⟩
      exact h2 (by omega) _ (Or.inl ⟨by omega, rfl⟩)
    refine pw_swt (fun h14 => ?_) (fun h14_1 => ?_)
    · skip
      refine pw_aload r_1_tell_77 rfl ?_
      refine pw_getI r_1_tell_78 fs_3_2 (by decide) ?_
      refine pw_iret r_1_tell_81 rfl (Nat.le_refl _) ⟨rfl, ?_⟩
      exact h2 (by omega) _ (Or.inr (Or.inl ⟨by omega, rfl⟩))
    refine pw_swt (fun h14 => ?_) (fun h14_2 => ?_)
    · skip
      refine pw_aload r_1_tell_82 rfl ?_
      refine pw_getI r_1_tell_83 fs_3_8 (by decide) ?_
      refine pw_iret r_1_tell_86 rfl (Nat.le_refl _) ⟨rfl, ?_⟩
      exact h2 (by omega) _ (Or.inr (Or.inr (Or.inl ⟨by omega, rfl⟩)))
    refine pw_swt (fun h14 => ?_) (fun h14_3 => ?_)
    · skip
      refine pw_aload r_1_tell_87 rfl ?_
      refine pw_getI r_1_tell_88 fs_3_10 (by decide) ?_
      refine pw_iret r_1_tell_91 rfl (Nat.le_refl _) ⟨rfl, ?_⟩
      exact h2 (by omega) _ (Or.inr (Or.inr (Or.inr (Or.inl ⟨by omega, rfl⟩))))
    refine pw_swt (fun h14 => ?_) (fun h14_4 => ?_)
    · skip
      refine pw_aload r_1_tell_92 rfl ?_
      refine pw_getI r_1_tell_93 fs_3_3 (by decide) ?_
      refine pw_iret r_1_tell_96 rfl (Nat.le_refl _) ⟨rfl, ?_⟩
      exact h2 (by omega) _ (Or.inr (Or.inr (Or.inr (Or.inr (Or.inl ⟨by omega, rfl⟩)))))
    refine pw_swt (fun h14 => ?_) (fun h14_5 => ?_)
    · skip
      refine pw_aload r_1_tell_97 rfl ?_
      refine pw_getI r_1_tell_98 fs_3_4 (by decide) ?_
      refine pw_iret r_1_tell_101 rfl (Nat.le_refl _) ⟨rfl, ?_⟩
      exact h2 (by omega) _ (Or.inr (Or.inr (Or.inr (Or.inr (Or.inr (Or.inl ⟨by omega, rfl⟩))))))
    refine pw_swt (fun h14 => ?_) (fun h14_6 => ?_)
    · skip
      refine pw_aload r_1_tell_102 rfl ?_
      refine pw_getI r_1_tell_103 fs_3_6 (by decide) ?_
      refine pw_iret r_1_tell_106 rfl (Nat.le_refl _) ⟨rfl, ?_⟩
      exact h2 (by omega) _ (Or.inr (Or.inr (Or.inr (Or.inr (Or.inr (Or.inr (Or.inl ⟨by omega, rfl⟩)))))))
    refine pw_swt (fun h14 => ?_) (fun h14_7 => ?_)
    · skip
      refine pw_aload r_1_tell_107 rfl ?_
      refine pw_getI r_1_tell_108 fs_3_5 (by decide) ?_
      refine pw_iret r_1_tell_111 rfl (Nat.le_refl _) ⟨rfl, ?_⟩
      exact h2 (by omega) _ (Or.inr (Or.inr (Or.inr (Or.inr (Or.inr (Or.inr (Or.inr (Or.inl ⟨by omega, rfl⟩))))))))
    refine pw_swt (fun h14 => ?_) (fun h14_8 => ?_)
    · skip
      refine pw_aload r_1_tell_112 rfl ?_
      refine pw_getI r_1_tell_113 fs_3_9 (by decide) ?_
      refine pw_iret r_1_tell_116 rfl (Nat.le_refl _) ⟨rfl, ?_⟩
      exact h2 (by omega) _ (Or.inr (Or.inr (Or.inr (Or.inr (Or.inr (Or.inr (Or.inr (Or.inr (Or.inl ⟨by omega, rfl⟩)))))))))
    refine pw_swt (fun h14 => ?_) (fun h14_9 => ?_)
    · skip
      refine pw_aload r_1_tell_117 rfl ?_
      refine pw_iload r_1_tell_118 rfl ?_
      refine pw_callV (av := [vI (p)]) (st := []) (ls0 := [some (vR 1 (0)), some (vI (p)), none, none]) r_1_tell_119 rfl rfl rfl (Nat.le_refl _) ?_
      refine sp_X1_countStays (by first | assumption | exact hst | omega) ?_
      refine pw_iret r_1_tell_122 rfl (Nat.le_refl _) ⟨rfl, ?_⟩
      exact h2 (by omega) _ (Or.inr (Or.inr (Or.inr (Or.inr (Or.inr (Or.inr (Or.inr (Or.inr (Or.inr (Or.inl ⟨by omega, rfl⟩))))))))))
    refine pw_swt (fun h14 => ?_) (fun h14_10 => ?_)
    · skip
      refine pw_aload r_1_tell_123 rfl ?_
      refine pw_getI r_1_tell_124 fs_3_11 (by decide) ?_
      refine pw_iret r_1_tell_127 rfl (Nat.le_refl _) ⟨rfl, ?_⟩
      exact h2 (by omega) _ (Or.inr (Or.inr (Or.inr (Or.inr (Or.inr (Or.inr (Or.inr (Or.inr (Or.inr (Or.inr (Or.inl ⟨by omega, rfl⟩)))))))))))
    refine pw_swd ?_
    refine pw_const r_1_tell_128 ?_
    refine pw_iret r_1_tell_130 rfl (Nat.le_refl _) ⟨rfl, ?_⟩
    exact h2 (by omega) _ (Or.inr (Or.inr (Or.inr (Or.inr (Or.inr (Or.inr (Or.inr (Or.inr (Or.inr (Or.inr (Or.inr (⟨by omega, rfl⟩))))))))))))
set_option maxRecDepth 10000 in
theorem sp_X12_of {l : Launch} {w : Wo} {d : Nat} {G : PH} {P : Option PV → PH → Prop} {p k : Int} (hsz : 0 ≤ (gF G 12 0 17) ∧ (gF G 12 0 17) ≤ 150) (hst : 0 ≤ (gF G 12 0 22) ∧ (gF G 12 0 22) ≤ 400) (h1 : ¬ (0 ≤ p ∧ p < (gF G 12 0 17)) → P (some (vI (-2000000000))) G) (h2 : (0 ≤ p ∧ p < (gF G 12 0 17)) → ∀ v, ((k = 0 ∧ v = (gA G 204 0 (p))) ∨ (k = 1 ∧ v = (gA G 205 0 (p))) ∨ (k = 2 ∧ v = (gA G 206 0 (p))) ∨ (k = 4 ∧ v = (gA G 208 0 (p))) ∨ (k = 5 ∧ v = (gA G 209 0 (p))) ∨ (k = 6 ∧ v = (gA G 210 0 (p))) ∨ (k = 7 ∧ v = (gA G 212 0 (p))) ∨ (k = 8 ∧ v = (gA G 213 0 (p))) ∨ (k = 9 ∧ v = cnt (fun i => (gA G 215 0 (i)) = p) (gF G 12 0 22)) ∨ (k = 3 ∧ (((gA G 206 0 (p)) ≤ 1 ∧ v = (gA G 207 0 (p))) ∨ (1 < (gA G 206 0 (p)) ∧ v = -1))) ∨ (k = 10 ∧ (((gA G 206 0 (p)) = 1 ∧ v = (gA G 214 0 (p))) ∨ ((gA G 206 0 (p)) ≠ 1 ∧ v = -1))) ∨ (¬ (0 ≤ k ∧ k ≤ 10) ∧ v = -2000000000)) → P (some (vI v)) G) : PW l w M_X12_of (d + 1) 0 [some (vR 12 (0)), some (vI (p)), some (vI (k))] [] G P := by
  refine pw_aload r_12_of_0 rfl ?_
  refine pw_iload r_12_of_1 rfl ?_
  refine pw_callV (av := [vI (p)]) (st := []) (ls0 := [some (vR 12 (0)), some (vI (p))]) r_12_of_2 rfl rfl rfl (Nat.le_refl _) ?_
  refine sp_X12_isPerson  ?_
  refine pw_if_neB r_12_of_5 (fun h05 => ?_) (fun h05 => ?_)
  · skip
    refine pw_iload r_12_of_12 rfl ?_
    refine pw_tswitch r_12_of_13 ?_
    refine pw_swt (fun h13 => ?_) (fun h13_0 => ?_)
    · skip
      refine pw_aload r_12_of_72 rfl ?_
      refine pw_getR r_12_of_73 fs_12_6 (by decide) ?_
      refine pw_iload r_12_of_76 rfl ?_
      refine pw_iald r_12_of_77 sh204 (by omega) (by omega) ?_
      refine pw_iret r_12_of_78 rfl (Nat.le_refl _) ⟨rfl, ?_⟩
      exact h2 (by omega) _ (Or.inl ⟨by omega, rfl⟩)
    refine pw_swt (fun h13 => ?_) (fun h13_1 => ?_)
    · skip
      refine pw_aload r_12_of_79 rfl ?_
      refine pw_getR r_12_of_80 fs_12_7 (by decide) ?_
      refine pw_iload r_12_of_83 rfl ?_
      refine pw_iald r_12_of_84 sh205 (by omega) (by omega) ?_
      refine pw_iret r_12_of_85 rfl (Nat.le_refl _) ⟨rfl, ?_⟩
      exact h2 (by omega) _ (Or.inr (Or.inl ⟨by omega, rfl⟩))
    refine pw_swt (fun h13 => ?_) (fun h13_2 => ?_)
    · skip
      refine pw_aload r_12_of_86 rfl ?_
      refine pw_getR r_12_of_87 fs_12_8 (by decide) ?_
      refine pw_iload r_12_of_90 rfl ?_
      refine pw_iald r_12_of_91 sh206 (by omega) (by omega) ?_
      refine pw_iret r_12_of_92 rfl (Nat.le_refl _) ⟨rfl, ?_⟩
      exact h2 (by omega) _ (Or.inr (Or.inr (Or.inl ⟨by omega, rfl⟩)))
    refine pw_swt (fun h13 => ?_) (fun h13_3 => ?_)
    · skip
      refine pw_aload r_12_of_93 rfl ?_
      refine pw_getR r_12_of_94 fs_12_8 (by decide) ?_
      refine pw_iload r_12_of_97 rfl ?_
      refine pw_iald r_12_of_98 sh206 (by omega) (by omega) ?_
      refine pw_const r_12_of_99 ?_
      refine pw_icmp_gt r_12_of_100 (fun h100 => ?_) (fun h100 => ?_)
      · skip
        refine pw_const r_12_of_112 ?_
        refine pw_iret r_12_of_113 rfl (Nat.le_refl _) ⟨rfl, ?_⟩
        exact h2 (by omega) _ (Or.inr (Or.inr (Or.inr (Or.inr (Or.inr (Or.inr (Or.inr (Or.inr (Or.inr (Or.inl ⟨by omega, by first | exact Or.inl ⟨by omega, rfl⟩ | exact Or.inr ⟨by omega, rfl⟩⟩))))))))))
      · skip
        refine pw_aload r_12_of_103 rfl ?_
        refine pw_getR r_12_of_104 fs_12_9 (by decide) ?_
        refine pw_iload r_12_of_107 rfl ?_
        refine pw_iald r_12_of_108 sh207 (by omega) (by omega) ?_
        refine pw_goto r_12_of_109 ?_
        refine pw_iret r_12_of_113 rfl (Nat.le_refl _) ⟨rfl, ?_⟩
        exact h2 (by omega) _ (Or.inr (Or.inr (Or.inr (Or.inr (Or.inr (Or.inr (Or.inr (Or.inr (Or.inr (Or.inl ⟨by omega, by first | exact Or.inl ⟨by omega, rfl⟩ | exact Or.inr ⟨by omega, rfl⟩⟩))))))))))
    refine pw_swt (fun h13 => ?_) (fun h13_4 => ?_)
    · skip
      refine pw_aload r_12_of_114 rfl ?_
      refine pw_getR r_12_of_115 fs_12_10 (by decide) ?_
      refine pw_iload r_12_of_118 rfl ?_
      refine pw_iald r_12_of_119 sh208 (by omega) (by omega) ?_
      refine pw_iret r_12_of_120 rfl (Nat.le_refl _) ⟨rfl, ?_⟩
      exact h2 (by omega) _ (Or.inr (Or.inr (Or.inr (Or.inl ⟨by omega, rfl⟩))))
    refine pw_swt (fun h13 => ?_) (fun h13_5 => ?_)
    · skip
      refine pw_aload r_12_of_121 rfl ?_
      refine pw_getR r_12_of_122 fs_12_11 (by decide) ?_
      refine pw_iload r_12_of_125 rfl ?_
      refine pw_iald r_12_of_126 sh209 (by omega) (by omega) ?_
      refine pw_iret r_12_of_127 rfl (Nat.le_refl _) ⟨rfl, ?_⟩
      exact h2 (by omega) _ (Or.inr (Or.inr (Or.inr (Or.inr (Or.inl ⟨by omega, rfl⟩)))))
    refine pw_swt (fun h13 => ?_) (fun h13_6 => ?_)
    · skip
      refine pw_aload r_12_of_128 rfl ?_
      refine pw_getR r_12_of_129 fs_12_12 (by decide) ?_
      refine pw_iload r_12_of_132 rfl ?_
      refine pw_iald r_12_of_133 sh210 (by omega) (by omega) ?_
      refine pw_iret r_12_of_134 rfl (Nat.le_refl _) ⟨rfl, ?_⟩
      exact h2 (by omega) _ (Or.inr (Or.inr (Or.inr (Or.inr (Or.inr (Or.inl ⟨by omega, rfl⟩))))))
    refine pw_swt (fun h13 => ?_) (fun h13_7 => ?_)
    · skip
      refine pw_aload r_12_of_135 rfl ?_
      refine pw_getR r_12_of_136 fs_12_14 (by decide) ?_
      refine pw_iload r_12_of_139 rfl ?_
      refine pw_iald r_12_of_140 sh212 (by omega) (by omega) ?_
      refine pw_iret r_12_of_141 rfl (Nat.le_refl _) ⟨rfl, ?_⟩
      exact h2 (by omega) _ (Or.inr (Or.inr (Or.inr (Or.inr (Or.inr (Or.inr (Or.inl ⟨by omega, rfl⟩)))))))
    refine pw_swt (fun h13 => ?_) (fun h13_8 => ?_)
    · skip
      refine pw_aload r_12_of_142 rfl ?_
      refine pw_getR r_12_of_143 fs_12_15 (by decide) ?_
      refine pw_iload r_12_of_146 rfl ?_
      refine pw_iald r_12_of_147 sh213 (by omega) (by omega) ?_
      refine pw_iret r_12_of_148 rfl (Nat.le_refl _) ⟨rfl, ?_⟩
      exact h2 (by omega) _ (Or.inr (Or.inr (Or.inr (Or.inr (Or.inr (Or.inr (Or.inr (Or.inl ⟨by omega, rfl⟩))))))))
    refine pw_swt (fun h13 => ?_) (fun h13_9 => ?_)
    · skip
      refine pw_aload r_12_of_149 rfl ?_
      refine pw_iload r_12_of_150 rfl ?_
      refine pw_callV (av := [vI (p)]) (st := []) (ls0 := [some (vR 12 (0)), some (vI (p)), none, none]) r_12_of_151 rfl rfl rfl (Nat.le_refl _) ?_
      refine sp_X12_staysOf (by first | assumption | exact hst | omega) ?_
      refine pw_iret r_12_of_154 rfl (Nat.le_refl _) ⟨rfl, ?_⟩
      exact h2 (by omega) _ (Or.inr (Or.inr (Or.inr (Or.inr (Or.inr (Or.inr (Or.inr (Or.inr (Or.inl ⟨by omega, rfl⟩)))))))))
    refine pw_swt (fun h13 => ?_) (fun h13_10 => ?_)
    · skip
      refine pw_aload r_12_of_155 rfl ?_
      refine pw_getR r_12_of_156 fs_12_8 (by decide) ?_
      refine pw_iload r_12_of_159 rfl ?_
      refine pw_iald r_12_of_160 sh206 (by omega) (by omega) ?_
      refine pw_const r_12_of_161 ?_
      refine pw_icmp_ne r_12_of_162 (fun h162 => ?_) (fun h162 => ?_)
      · skip
        refine pw_const r_12_of_174 ?_
        refine pw_iret r_12_of_175 rfl (Nat.le_refl _) ⟨rfl, ?_⟩
        exact h2 (by omega) _ (Or.inr (Or.inr (Or.inr (Or.inr (Or.inr (Or.inr (Or.inr (Or.inr (Or.inr (Or.inr (Or.inl ⟨by omega, by first | exact Or.inl ⟨by omega, rfl⟩ | exact Or.inr ⟨by omega, rfl⟩⟩)))))))))))
      · skip
        refine pw_aload r_12_of_165 rfl ?_
        refine pw_getR r_12_of_166 fs_12_16 (by decide) ?_
        refine pw_iload r_12_of_169 rfl ?_
        refine pw_iald r_12_of_170 sh214 (by omega) (by omega) ?_
        refine pw_goto r_12_of_171 ?_
        refine pw_iret r_12_of_175 rfl (Nat.le_refl _) ⟨rfl, ?_⟩
        exact h2 (by omega) _ (Or.inr (Or.inr (Or.inr (Or.inr (Or.inr (Or.inr (Or.inr (Or.inr (Or.inr (Or.inr (Or.inl ⟨by omega, by first | exact Or.inl ⟨by omega, rfl⟩ | exact Or.inr ⟨by omega, rfl⟩⟩)))))))))))
    refine pw_swd ?_
    refine pw_const r_12_of_176 ?_
    refine pw_iret r_12_of_179 rfl (Nat.le_refl _) ⟨rfl, ?_⟩
    exact h2 (by omega) _ (Or.inr (Or.inr (Or.inr (Or.inr (Or.inr (Or.inr (Or.inr (Or.inr (Or.inr (Or.inr (Or.inr (⟨by omega, rfl⟩))))))))))))
  · skip
    refine pw_const r_12_of_8 ?_
    refine pw_iret r_12_of_11 rfl (Nat.le_refl _) ⟨rfl, ?_⟩
    exact h1 (by omega)
set_option maxRecDepth 10000 in
theorem sp_X1_tellStay {l : Launch} {w : Wo} {d : Nat} {G : PH} {P : Option PV → PH → Prop} {p j k : Int} (hst : 0 ≤ (gF G 1 0 3) ∧ (gF G 1 0 3) ≤ 400) (h1 : (j < 0 ∨ cnt (fun i => (gA G 32 0 (i)) = p) (gF G 1 0 3) ≤ j ∨ ¬ (0 ≤ k ∧ k ≤ 2)) → P (some (vI (-2000000000))) G) (h2 : ∀ s, 0 ≤ s → s < (gF G 1 0 3) → (gA G 32 0 (s)) = p → cnt (fun i => (gA G 32 0 (i)) = p) s = j → ∀ v, ((k = 0 ∧ v = (gA G 33 0 (s))) ∨ (k = 1 ∧ v = (gA G 34 0 (s))) ∨ (k = 2 ∧ v = (gA G 35 0 (s)))) → P (some (vI v)) G) : PW l w M_X1_tellStay (d + 0) 0 [some (vR 1 (0)), some (vI (p)), some (vI (j)), some (vI (k)), none, none] [] G P := by
  refine pw_rng (i := 2) rfl (fun hj => ?_)
  have hj : -2147483648 ≤ j ∧ j < 2147483648 := hj
  refine pw_iload r_1_tellStay_0 rfl ?_
  refine pw_istore (ls' := [some (vR 1 (0)), some (vI (p)), some (vI (j)), some (vI (k)), some (vI (j)), none]) r_1_tellStay_1 rfl rfl ?_
  refine pw_const r_1_tellStay_3 ?_
  refine pw_istore (ls' := [some (vR 1 (0)), some (vI (p)), some (vI (j)), some (vI (k)), some (vI (j)), some (vI (0))]) r_1_tellStay_4 rfl rfl ?_
  have L6 : ∀ (nF : Nat) (s a : Int), (hi : 0 ≤ s ∧ s ≤ (gF G 1 0 3)) → (hn : (j < 0 ∧ a < 0) ∨ (0 ≤ j ∧ 0 ≤ a ∧ a + cnt (fun i => (gA G 32 0 (i)) = p) s = j)) → ((gF G 1 0 3) - s).toNat < nF → PW l w M_X1_tellStay (d + 0) 6 [some (vR 1 (0)), some (vI (p)), some (vI (j)), some (vI (k)), some (vI (a)), some (vI (s))] [] G P := by
    intro nF
    induction nF with
    | zero => intro _ _ _ _ hM; exact absurd hM (Nat.not_lt_zero _)
    | succ nF ih6 =>
      intro s a hi hn hM6
      have hcl := cnt_le (fun i => (gA G 32 0 (i)) = p) hi.1
      refine pw_iload r_1_tellStay_6 rfl ?_
      refine pw_aload r_1_tellStay_8 rfl ?_
      refine pw_getI r_1_tellStay_9 fs_1_3 (by decide) ?_
      refine pw_icmp_ge r_1_tellStay_12 (fun h12 => ?_) (fun h12 => ?_)
      · skip
        refine pw_const r_1_tellStay_104 ?_
        refine pw_iret r_1_tellStay_106 rfl (Nat.le_refl _) ⟨rfl, ?_⟩
        first | exact h2 s (by omega) (by omega) (by omega) (by omega) _ (by omega) | exact h1 (by first | omega | (rw [show (gF G 1 0 3) = s by omega]; omega))
      · skip
        refine pw_iload r_1_tellStay_15 rfl ?_
        refine pw_if_lt r_1_tellStay_17 (fun h17 => ?_) (fun h17 => ?_)
        · skip
          refine pw_const r_1_tellStay_104 ?_
          refine pw_iret r_1_tellStay_106 rfl (Nat.le_refl _) ⟨rfl, ?_⟩
          first | exact h2 s (by omega) (by omega) (by omega) (by omega) _ (by omega) | exact h1 (by first | omega | (rw [show (gF G 1 0 3) = s by omega]; omega))
        · skip
          refine pw_aload r_1_tellStay_20 rfl ?_
          refine pw_getR r_1_tellStay_21 fs_1_6 (by decide) ?_
          refine pw_iload r_1_tellStay_24 rfl ?_
          refine pw_iald r_1_tellStay_26 sh32 (by omega) (by omega) ?_
          refine pw_iload r_1_tellStay_27 rfl ?_
          refine pw_icmp_eq r_1_tellStay_28 (fun h28 => ?_) (fun h28 => ?_)
          · skip
            refine pw_iload r_1_tellStay_34 rfl ?_
            refine pw_if_ne r_1_tellStay_36 (fun h36 => ?_) (fun h36 => ?_)
            · skip
              refine pw_iinc (b := 0) (ls' := [some (vR 1 (0)), some (vI (p)), some (vI (j)), some (vI (k)), some (vI ((a + (-1)))), some (vI (s))]) r_1_tellStay_95 rfl rfl (by omega) rfl ?_
              refine pw_iinc (b := 0) (ls' := [some (vR 1 (0)), some (vI (p)), some (vI (j)), some (vI (k)), some (vI ((a + (-1)))), some (vI ((s + 1)))]) r_1_tellStay_98 rfl rfl (by omega) rfl ?_
              refine pw_goto r_1_tellStay_101 ?_
              exact ih6 ((s + 1)) ((a + (-1))) (by omega) (by first | (rw [cnt_t hi.1 (show (gA G 32 0 (s)) = p by omega)]; omega) | (rw [cnt_f hi.1 (show ¬ ((gA G 32 0 (s)) = p) by omega)]; omega)) (by omega)
            · skip
              refine pw_iload r_1_tellStay_39 rfl ?_
              refine pw_tswitch r_1_tellStay_40 ?_
              refine pw_swt (fun h40 => ?_) (fun h40_0 => ?_)
              · skip
                refine pw_aload r_1_tellStay_68 rfl ?_
                refine pw_getR r_1_tellStay_69 fs_1_7 (by decide) ?_
                refine pw_iload r_1_tellStay_72 rfl ?_
                refine pw_iald r_1_tellStay_74 sh33 (by omega) (by omega) ?_
                refine pw_iret r_1_tellStay_75 rfl (Nat.le_refl _) ⟨rfl, ?_⟩
                first | exact h2 s (by omega) (by omega) (by omega) (by omega) _ (by omega) | exact h1 (by first | omega | (rw [show (gF G 1 0 3) = s by omega]; omega))
              refine pw_swt (fun h40 => ?_) (fun h40_1 => ?_)
              · skip
                refine pw_aload r_1_tellStay_76 rfl ?_
                refine pw_getR r_1_tellStay_77 fs_1_8 (by decide) ?_
                refine pw_iload r_1_tellStay_80 rfl ?_
                refine pw_iald r_1_tellStay_82 sh34 (by omega) (by omega) ?_
                refine pw_iret r_1_tellStay_83 rfl (Nat.le_refl _) ⟨rfl, ?_⟩
                first | exact h2 s (by omega) (by omega) (by omega) (by omega) _ (by omega) | exact h1 (by first | omega | (rw [show (gF G 1 0 3) = s by omega]; omega))
              refine pw_swt (fun h40 => ?_) (fun h40_2 => ?_)
              · skip
                refine pw_aload r_1_tellStay_84 rfl ?_
                refine pw_getR r_1_tellStay_85 fs_1_9 (by decide) ?_
                refine pw_iload r_1_tellStay_88 rfl ?_
                refine pw_iald r_1_tellStay_90 sh35 (by omega) (by omega) ?_
                refine pw_iret r_1_tellStay_91 rfl (Nat.le_refl _) ⟨rfl, ?_⟩
                first | exact h2 s (by omega) (by omega) (by omega) (by omega) _ (by omega) | exact h1 (by first | omega | (rw [show (gF G 1 0 3) = s by omega]; omega))
              refine pw_swd ?_
              refine pw_const r_1_tellStay_92 ?_
              refine pw_iret r_1_tellStay_94 rfl (Nat.le_refl _) ⟨rfl, ?_⟩
              first | exact h2 s (by omega) (by omega) (by omega) (by omega) _ (by omega) | exact h1 (by first | omega | (rw [show (gF G 1 0 3) = s by omega]; omega))
          · skip
            refine pw_goto r_1_tellStay_31 ?_
            refine pw_iinc (b := 0) (ls' := [some (vR 1 (0)), some (vI (p)), some (vI (j)), some (vI (k)), some (vI (a)), some (vI ((s + 1)))]) r_1_tellStay_98 rfl rfl (by omega) rfl ?_
            refine pw_goto r_1_tellStay_101 ?_
            exact ih6 ((s + 1)) (a) (by omega) (by first | (rw [cnt_t hi.1 (show (gA G 32 0 (s)) = p by omega)]; omega) | (rw [cnt_f hi.1 (show ¬ ((gA G 32 0 (s)) = p) by omega)]; omega)) (by omega)
  exact L6 _ (0) (j) (by omega) (by rw [cnt_0]; omega) (Nat.lt_succ_self _)
set_option maxRecDepth 10000 in
theorem sp_X12_stay {l : Launch} {w : Wo} {d : Nat} {G : PH} {P : Option PV → PH → Prop} {p j k : Int} (hst : 0 ≤ (gF G 12 0 22) ∧ (gF G 12 0 22) ≤ 400) (h0 : ¬ (0 ≤ p ∧ p < (gF G 12 0 17)) → P (some (vI (-2000000000))) G) (h1 : (0 ≤ p ∧ p < (gF G 12 0 17)) → (j < 0 ∨ cnt (fun i => (gA G 215 0 (i)) = p) (gF G 12 0 22) ≤ j ∨ ¬ (0 ≤ k ∧ k ≤ 2)) → P (some (vI (-2000000000))) G) (h2 : (0 ≤ p ∧ p < (gF G 12 0 17)) → ∀ s, 0 ≤ s → s < (gF G 12 0 22) → (gA G 215 0 (s)) = p → cnt (fun i => (gA G 215 0 (i)) = p) s = j → ∀ v, ((k = 0 ∧ v = (gA G 216 0 (s))) ∨ (k = 1 ∧ v = (gA G 217 0 (s))) ∨ (k = 2 ∧ v = (gA G 218 0 (s)))) → P (some (vI v)) G) : PW l w M_X12_stay (d + 1) 0 [some (vR 12 (0)), some (vI (p)), some (vI (j)), some (vI (k)), none, none] [] G P := by
  refine pw_rng (i := 2) rfl (fun hj => ?_)
  have hj : -2147483648 ≤ j ∧ j < 2147483648 := hj
  refine pw_aload r_12_stay_0 rfl ?_
  refine pw_iload r_12_stay_1 rfl ?_
  refine pw_callV (av := [vI (p)]) (st := []) (ls0 := [some (vR 12 (0)), some (vI (p))]) r_12_stay_2 rfl rfl rfl (Nat.le_refl _) ?_
  refine sp_X12_isPerson  ?_
  refine pw_if_eqB r_12_stay_5 (fun h05 => ?_) (fun h05 => ?_)
  · skip
    refine pw_const r_12_stay_21 ?_
    refine pw_iret r_12_stay_24 rfl (Nat.le_refl _) ⟨rfl, ?_⟩
    first | exact h0 (by omega) | exact h2 (by omega) s (by omega) (by omega) (by omega) (by omega) _ (by omega) | exact h1 (by omega) (by first | omega | (rw [show (gF G 12 0 22) = s by omega]; omega))
  · skip
    refine pw_iload r_12_stay_8 rfl ?_
    refine pw_if_lt r_12_stay_9 (fun h09 => ?_) (fun h09 => ?_)
    · skip
      refine pw_const r_12_stay_21 ?_
      refine pw_iret r_12_stay_24 rfl (Nat.le_refl _) ⟨rfl, ?_⟩
      first | exact h0 (by omega) | exact h2 (by omega) s (by omega) (by omega) (by omega) (by omega) _ (by omega) | exact h1 (by omega) (by first | omega | (rw [show (gF G 12 0 22) = s by omega]; omega))
    · skip
      refine pw_iload r_12_stay_12 rfl ?_
      refine pw_const r_12_stay_13 ?_
      refine pw_const r_12_stay_14 ?_
      refine pw_callS (av := [vI (k), vI (0), vI (2)]) (st := []) (ls0 := [some (vI (k)), some (vI (0)), some (vI (2))]) r_12_stay_15 rfl rfl rfl (Nat.le_refl _) ?_
      refine sp_X12_within  ?_
      refine pw_if_neB r_12_stay_18 (fun h18 => ?_) (fun h18 => ?_)
      · skip
        refine pw_iload r_12_stay_25 rfl ?_
        refine pw_istore (ls' := [some (vR 12 (0)), some (vI (p)), some (vI (j)), some (vI (k)), some (vI (j)), none]) r_12_stay_26 rfl rfl ?_
        refine pw_const r_12_stay_28 ?_
        refine pw_istore (ls' := [some (vR 12 (0)), some (vI (p)), some (vI (j)), some (vI (k)), some (vI (j)), some (vI (0))]) r_12_stay_29 rfl rfl ?_
        have L31 : ∀ (nF : Nat) (s a : Int), (hi : 0 ≤ s ∧ s ≤ (gF G 12 0 22)) → (hn : 0 ≤ a ∧ a + cnt (fun i => (gA G 215 0 (i)) = p) s = j) → ((gF G 12 0 22) - s).toNat < nF → PW l w M_X12_stay (d + 1) 31 [some (vR 12 (0)), some (vI (p)), some (vI (j)), some (vI (k)), some (vI (a)), some (vI (s))] [] G P := by
          intro nF
          induction nF with
          | zero => intro _ _ _ _ hM; exact absurd hM (Nat.not_lt_zero _)
          | succ nF ih31 =>
            intro s a hi hn hM31
            have hcl := cnt_le (fun i => (gA G 215 0 (i)) = p) hi.1
            refine pw_iload r_12_stay_31 rfl ?_
            refine pw_aload r_12_stay_33 rfl ?_
            refine pw_getI r_12_stay_34 fs_12_22 (by decide) ?_
            refine pw_icmp_ge r_12_stay_37 (fun h37 => ?_) (fun h37 => ?_)
            · skip
              refine pw_const r_12_stay_102 ?_
              refine pw_iret r_12_stay_105 rfl (Nat.le_refl _) ⟨rfl, ?_⟩
              first | exact h0 (by omega) | exact h2 (by omega) s (by omega) (by omega) (by omega) (by omega) _ (by omega) | exact h1 (by omega) (by first | omega | (rw [show (gF G 12 0 22) = s by omega]; omega))
            · skip
              refine pw_aload r_12_stay_40 rfl ?_
              refine pw_getR r_12_stay_41 fs_12_18 (by decide) ?_
              refine pw_iload r_12_stay_44 rfl ?_
              refine pw_iald r_12_stay_46 sh215 (by omega) (by omega) ?_
              refine pw_iload r_12_stay_47 rfl ?_
              refine pw_icmp_ne r_12_stay_48 (fun h48 => ?_) (fun h48 => ?_)
              · skip
                refine pw_iinc (b := 0) (ls' := [some (vR 12 (0)), some (vI (p)), some (vI (j)), some (vI (k)), some (vI (a)), some (vI ((s + 1)))]) r_12_stay_96 rfl rfl (by omega) rfl ?_
                refine pw_goto r_12_stay_99 ?_
                exact ih31 ((s + 1)) (a) (by omega) (by first | (rw [cnt_t hi.1 (show (gA G 215 0 (s)) = p by omega)]; omega) | (rw [cnt_f hi.1 (show ¬ ((gA G 215 0 (s)) = p) by omega)]; omega)) (by omega)
              · skip
                refine pw_iload r_12_stay_51 rfl ?_
                refine pw_if_ne r_12_stay_53 (fun h53 => ?_) (fun h53 => ?_)
                · skip
                  refine pw_iinc (b := 0) (ls' := [some (vR 12 (0)), some (vI (p)), some (vI (j)), some (vI (k)), some (vI ((a + (-1)))), some (vI (s))]) r_12_stay_93 rfl rfl (by omega) rfl ?_
                  refine pw_iinc (b := 0) (ls' := [some (vR 12 (0)), some (vI (p)), some (vI (j)), some (vI (k)), some (vI ((a + (-1)))), some (vI ((s + 1)))]) r_12_stay_96 rfl rfl (by omega) rfl ?_
                  refine pw_goto r_12_stay_99 ?_
                  exact ih31 ((s + 1)) ((a + (-1))) (by omega) (by first | (rw [cnt_t hi.1 (show (gA G 215 0 (s)) = p by omega)]; omega) | (rw [cnt_f hi.1 (show ¬ ((gA G 215 0 (s)) = p) by omega)]; omega)) (by omega)
                · skip
                  refine pw_iload r_12_stay_56 rfl ?_
                  refine pw_if_ne r_12_stay_57 (fun h57 => ?_) (fun h57 => ?_)
                  · skip
                    refine pw_iload r_12_stay_70 rfl ?_
                    refine pw_const r_12_stay_71 ?_
                    refine pw_icmp_ne r_12_stay_72 (fun h72 => ?_) (fun h72 => ?_)
                    · skip
                      refine pw_aload r_12_stay_85 rfl ?_
                      refine pw_getR r_12_stay_86 fs_12_21 (by decide) ?_
                      refine pw_iload r_12_stay_89 rfl ?_
                      refine pw_iald r_12_stay_91 sh218 (by omega) (by omega) ?_
                      refine pw_iret r_12_stay_92 rfl (Nat.le_refl _) ⟨rfl, ?_⟩
                      first | exact h0 (by omega) | exact h2 (by omega) s (by omega) (by omega) (by omega) (by omega) _ (by omega) | exact h1 (by omega) (by first | omega | (rw [show (gF G 12 0 22) = s by omega]; omega))
                    · skip
                      refine pw_aload r_12_stay_75 rfl ?_
                      refine pw_getR r_12_stay_76 fs_12_20 (by decide) ?_
                      refine pw_iload r_12_stay_79 rfl ?_
                      refine pw_iald r_12_stay_81 sh217 (by omega) (by omega) ?_
                      refine pw_goto r_12_stay_82 ?_
                      refine pw_iret r_12_stay_92 rfl (Nat.le_refl _) ⟨rfl, ?_⟩
                      first | exact h0 (by omega) | exact h2 (by omega) s (by omega) (by omega) (by omega) (by omega) _ (by omega) | exact h1 (by omega) (by first | omega | (rw [show (gF G 12 0 22) = s by omega]; omega))
                  · skip
                    refine pw_aload r_12_stay_60 rfl ?_
                    refine pw_getR r_12_stay_61 fs_12_19 (by decide) ?_
                    refine pw_iload r_12_stay_64 rfl ?_
                    refine pw_iald r_12_stay_66 sh216 (by omega) (by omega) ?_
                    refine pw_goto r_12_stay_67 ?_
                    refine pw_iret r_12_stay_92 rfl (Nat.le_refl _) ⟨rfl, ?_⟩
                    first | exact h0 (by omega) | exact h2 (by omega) s (by omega) (by omega) (by omega) (by omega) _ (by omega) | exact h1 (by omega) (by first | omega | (rw [show (gF G 12 0 22) = s by omega]; omega))
        exact L31 _ (0) (j) (by omega) (by rw [cnt_0]; omega) (Nat.lt_succ_self _)
      · skip
        refine pw_const r_12_stay_21 ?_
        refine pw_iret r_12_stay_24 rfl (Nat.le_refl _) ⟨rfl, ?_⟩
        first | exact h0 (by omega) | exact h2 (by omega) s (by omega) (by omega) (by omega) (by omega) _ (by omega) | exact h1 (by omega) (by first | omega | (rw [show (gF G 12 0 22) = s by omega]; omega))
