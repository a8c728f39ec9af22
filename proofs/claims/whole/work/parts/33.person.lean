theorem oin_ok : Cond.instanceMethod Lib.objectInit ∈ UW ∧ Cond.code Lib.objectInit ⟨#[0xb1]⟩ 1 none ∈ UW := ⟨UW1_at 28 (by decide +kernel) rfl, UW1_at 29 (by decide +kernel) rfl⟩
def nwG (G : PH) (r : Int) : PH := (fun c r' k => if c = 3 ∧ r' = r then 0 else G.1 c r' k, G.2)
theorem newG_eq {G : PH} {n : Nat} {z : Int} (h : z = n) : newG G n = nwG G z := by rw [h]; rfl
theorem gF_nwG (G : PH) (r : Int) (c : Nat) (r' : Int) (k : Nat) : gF (nwG G r) c r' k = if c = 3 ∧ r' = r then 0 else gF G c r' k := rfl
theorem gA_nwG (G : PH) (r : Int) (c : Nat) (r' i : Int) : gA (nwG G r) c r' i = gA G c r' i := rfl
theorem gD_nwG (G : PH) (r : Int) (c : Nat) (r' i : Int) : gD (nwG G r) c r' i = gD G c r' i := rfl

theorem wd_m3_3 : Cond.methodLink "NameRolls$Person" 3 Lib.objectInit ∈ UW := UW3_at 146 (by decide +kernel) rfl
theorem wd_f3_18 : Cond.fieldLink "NameRolls$Person" 18 "NameRolls$Person" "side" "I" ∈ UW := UW3_at 154 (by decide +kernel) rfl
theorem wd_f3_24 : Cond.fieldLink "NameRolls$Person" 24 "NameRolls$Person" "with" "I" ∈ UW := UW3_at 162 (by decide +kernel) rfl
theorem wd_f3_27 : Cond.fieldLink "NameRolls$Person" 27 "NameRolls$Person" "came" "I" ∈ UW := UW3_at 165 (by decide +kernel) rfl
theorem wd_f3_30 : Cond.fieldLink "NameRolls$Person" 30 "NameRolls$Person" "gradeDay" "I" ∈ UW := UW3_at 172 (by decide +kernel) rfl
theorem wd_m1_105 : Cond.methodLink "NameRolls$Crowd" 105 M_X1_mayGoWith.1 ∈ UW := UW3_at 122 (by decide +kernel) rfl
theorem wd_s1_mayGoWith : Cond.selects M_X1_mayGoWith.1.cls M_X1_mayGoWith.1 M_X1_mayGoWith.1 ∈ UW := UWp_at 6 (by decide +kernel) rfl
theorem wd_m1_108 : Cond.methodLink "NameRolls$Crowd" 108 M_X1_mayHaveGrade.1 ∈ UW := UW3_at 130 (by decide +kernel) rfl
theorem wd_s1_mayHaveGrade : Cond.selects M_X1_mayHaveGrade.1.cls M_X1_mayHaveGrade.1 M_X1_mayHaveGrade.1 ∈ UW := UWp_at 7 (by decide +kernel) rfl
theorem wd_cl1_11 : Cond.classLink "NameRolls$Crowd" 11 RX3 ∈ UW := UW1_at 66 (by decide +kernel) rfl
theorem wd_inst3 : Cond.instantiable RX3 12 ∈ UW := UW3_at 142 (by decide +kernel) rfl
theorem wd_ini3 : Cond.initialized RX3 ∈ UW := UW1_at 14 (by decide +kernel) rfl
theorem wd_m1_119 : Cond.methodLink "NameRolls$Crowd" 119 M_X3_init.1 ∈ UW := UW3_at 143 (by decide +kernel) rfl
theorem wd_m1_85 : Cond.methodLink "NameRolls$Crowd" 85 M_X1_beginStay.1 ∈ UW := UW3_at 45 (by decide +kernel) rfl
theorem wd_s1_beginStay : Cond.selects M_X1_beginStay.1.cls M_X1_beginStay.1 M_X1_beginStay.1 ∈ UW := UWp_at 1 (by decide +kernel) rfl
theorem wd_m12_271 : Cond.methodLink "NameRollsModel" 271 M_X12_enters.1 ∈ UW := UW8_at 195 (by decide +kernel) rfl
theorem wd_s12_enters : Cond.selects M_X12_enters.1.cls M_X12_enters.1 M_X12_enters.1 ∈ UW := UWp_at 61 (by decide +kernel) rfl
theorem r_3_init_0 : RA M_X3_init 0 0 1 := Or.inl ⟨0, by decide +kernel, rfl, rfl⟩
theorem r_3_init_1 : ROI M_X3_init 1 4 := ⟨3, by decide +kernel, wd_m3_3, oin_ok.1, oin_ok.2, rfl⟩
theorem r_3_init_4 : RA M_X3_init 4 0 5 := Or.inl ⟨0, by decide +kernel, rfl, rfl⟩
theorem r_3_init_5 : RL M_X3_init 5 1 6 := Or.inl ⟨1, by decide +kernel, rfl, rfl⟩
theorem r_3_init_6 : RP M_X3_init 6 3 0 9 := ⟨9, _, by decide +kernel, rfl, by decide, wd_f3_9, rfl, Or.inr ⟨rfl, rfl, rfl⟩, rfl⟩
theorem r_3_init_9 : RA M_X3_init 9 0 10 := Or.inl ⟨0, by decide +kernel, rfl, rfl⟩
theorem r_3_init_10 : RL M_X3_init 10 2 11 := Or.inl ⟨2, by decide +kernel, rfl, rfl⟩
theorem r_3_init_11 : RP M_X3_init 11 3 1 14 := ⟨15, _, by decide +kernel, rfl, by decide, wd_f3_15, rfl, Or.inr ⟨rfl, rfl, rfl⟩, rfl⟩
theorem r_3_init_14 : RA M_X3_init 14 0 15 := Or.inl ⟨0, by decide +kernel, rfl, rfl⟩
theorem r_3_init_15 : RL M_X3_init 15 3 16 := Or.inl ⟨3, by decide +kernel, rfl, rfl⟩
theorem r_3_init_16 : RP M_X3_init 16 3 2 19 := ⟨18, _, by decide +kernel, rfl, by decide, wd_f3_18, rfl, Or.inr ⟨rfl, rfl, rfl⟩, rfl⟩
theorem r_3_init_19 : RA M_X3_init 19 0 20 := Or.inl ⟨0, by decide +kernel, rfl, rfl⟩
theorem r_3_init_20 : RL M_X3_init 20 4 22 := Or.inr ⟨by decide +kernel, rfl⟩
theorem r_3_init_22 : RP M_X3_init 22 3 3 25 := ⟨21, _, by decide +kernel, rfl, by decide, wd_f3_21, rfl, Or.inr ⟨rfl, rfl, rfl⟩, rfl⟩
theorem r_3_init_25 : RA M_X3_init 25 0 26 := Or.inl ⟨0, by decide +kernel, rfl, rfl⟩
theorem r_3_init_26 : RL M_X3_init 26 5 28 := Or.inr ⟨by decide +kernel, rfl⟩
theorem r_3_init_28 : RP M_X3_init 28 3 4 31 := ⟨24, _, by decide +kernel, rfl, by decide, wd_f3_24, rfl, Or.inr ⟨rfl, rfl, rfl⟩, rfl⟩
theorem r_3_init_31 : RA M_X3_init 31 0 32 := Or.inl ⟨0, by decide +kernel, rfl, rfl⟩
theorem r_3_init_32 : RL M_X3_init 32 6 34 := Or.inr ⟨by decide +kernel, rfl⟩
theorem r_3_init_34 : RP M_X3_init 34 3 5 37 := ⟨27, _, by decide +kernel, rfl, by decide, wd_f3_27, rfl, Or.inr ⟨rfl, rfl, rfl⟩, rfl⟩
theorem r_3_init_37 : RA M_X3_init 37 0 38 := Or.inl ⟨0, by decide +kernel, rfl, rfl⟩
theorem r_3_init_38 : RL M_X3_init 38 6 40 := Or.inr ⟨by decide +kernel, rfl⟩
theorem r_3_init_40 : RP M_X3_init 40 3 7 43 := ⟨30, _, by decide +kernel, rfl, by decide, wd_f3_30, rfl, Or.inl rfl, rfl⟩
theorem r_3_init_43 : RA M_X3_init 43 0 44 := Or.inl ⟨0, by decide +kernel, rfl, rfl⟩
theorem r_3_init_44 : RL M_X3_init 44 6 46 := Or.inr ⟨by decide +kernel, rfl⟩
theorem r_3_init_46 : RP M_X3_init 46 3 9 49 := ⟨33, _, by decide +kernel, rfl, by decide, wd_f3_33, rfl, Or.inl rfl, rfl⟩
theorem r_3_init_49 : RA M_X3_init 49 0 50 := Or.inl ⟨0, by decide +kernel, rfl, rfl⟩
theorem r_3_init_50 : RC M_X3_init 50 (-1) 51 := ⟨⟨by decide, by decide⟩, Or.inl ⟨by decide +kernel, rfl⟩⟩
theorem r_3_init_51 : RP M_X3_init 51 3 11 54 := ⟨36, _, by decide +kernel, rfl, by decide, wd_f3_36, rfl, Or.inl rfl, rfl⟩
theorem r_3_init_54 : RW M_X3_init 54 .return_ 55 1 := ⟨by decide +kernel, rfl⟩
theorem r_1_mayGoWith_0 : RL M_X1_mayGoWith 0 2 1 := Or.inl ⟨2, by decide +kernel, rfl, rfl⟩
theorem r_1_mayGoWith_1 : RC M_X1_mayGoWith 1 (-1) 2 := ⟨⟨by decide, by decide⟩, Or.inl ⟨by decide +kernel, rfl⟩⟩
theorem r_1_mayGoWith_2 : RB M_X1_mayGoWith 2 (.if_icmp .ne) 7 5 := ⟨5, by decide +kernel, rfl, rfl⟩
theorem r_1_mayGoWith_7 : RA M_X1_mayGoWith 7 0 8 := Or.inl ⟨0, by decide +kernel, rfl, rfl⟩
theorem r_1_mayGoWith_8 : RL M_X1_mayGoWith 8 2 9 := Or.inl ⟨2, by decide +kernel, rfl, rfl⟩
theorem r_1_mayGoWith_9 : RKv M_X1_mayGoWith M_X1_get 9 1 1 12 := ⟨125, by decide +kernel, wd_m1_125, ok_M_X1_get, wd_s1_get, rfl⟩
theorem r_1_mayGoWith_12 : RT M_X1_mayGoWith 12 4 14 := ⟨by decide, Or.inr ⟨by decide +kernel, rfl⟩⟩
theorem r_1_mayGoWith_14 : RL M_X1_mayGoWith 14 1 15 := Or.inl ⟨1, by decide +kernel, rfl, rfl⟩
theorem r_1_mayGoWith_15 : RC M_X1_mayGoWith 15 6 17 := ⟨⟨by decide, by decide⟩, Or.inr (Or.inl ⟨by decide +kernel, by decide, rfl⟩)⟩
theorem r_1_mayGoWith_17 : RB M_X1_mayGoWith 17 (.if_icmp .ne) 38 20 := ⟨21, by decide +kernel, rfl, rfl⟩
theorem r_1_mayGoWith_38 : RC M_X1_mayGoWith 38 0 39 := ⟨⟨by decide, by decide⟩, Or.inl ⟨by decide +kernel, rfl⟩⟩
theorem r_1_mayGoWith_39 : RW M_X1_mayGoWith 39 .ireturn 40 1 := ⟨by decide +kernel, rfl⟩
theorem r_1_mayGoWith_20 : RA M_X1_mayGoWith 20 4 22 := Or.inr ⟨by decide +kernel, rfl⟩
theorem r_1_mayGoWith_22 : RB M_X1_mayGoWith 22 .ifnull 38 25 := ⟨16, by decide +kernel, rfl, rfl⟩
theorem r_1_mayGoWith_25 : RA M_X1_mayGoWith 25 4 27 := Or.inr ⟨by decide +kernel, rfl⟩
theorem r_1_mayGoWith_27 : RG M_X1_mayGoWith 27 3 2 30 := ⟨129, _, by decide +kernel, rfl, by decide, wd_f1_129, rfl, rfl⟩
theorem r_1_mayGoWith_30 : RL M_X1_mayGoWith 30 3 31 := Or.inl ⟨3, by decide +kernel, rfl, rfl⟩
theorem r_1_mayGoWith_31 : RB M_X1_mayGoWith 31 (.if_icmp .ne) 38 34 := ⟨7, by decide +kernel, rfl, rfl⟩
theorem r_1_mayGoWith_34 : RC M_X1_mayGoWith 34 1 35 := ⟨⟨by decide, by decide⟩, Or.inl ⟨by decide +kernel, rfl⟩⟩
theorem r_1_mayGoWith_35 : RB M_X1_mayGoWith 35 .goto 39 38 := ⟨4, by decide +kernel, rfl, rfl⟩
theorem r_1_mayGoWith_5 : RC M_X1_mayGoWith 5 1 6 := ⟨⟨by decide, by decide⟩, Or.inl ⟨by decide +kernel, rfl⟩⟩
theorem r_1_mayGoWith_6 : RW M_X1_mayGoWith 6 .ireturn 7 1 := ⟨by decide +kernel, rfl⟩
theorem r_1_mayHaveGrade_0 : RL M_X1_mayHaveGrade 0 1 1 := Or.inl ⟨1, by decide +kernel, rfl, rfl⟩
theorem r_1_mayHaveGrade_1 : RC M_X1_mayHaveGrade 1 2 2 := ⟨⟨by decide, by decide⟩, Or.inl ⟨by decide +kernel, rfl⟩⟩
theorem r_1_mayHaveGrade_2 : RB M_X1_mayHaveGrade 2 (.if_icmp .ne) 15 5 := ⟨13, by decide +kernel, rfl, rfl⟩
theorem r_1_mayHaveGrade_15 : RL M_X1_mayHaveGrade 15 2 16 := Or.inl ⟨2, by decide +kernel, rfl, rfl⟩
theorem r_1_mayHaveGrade_16 : RB M_X1_mayHaveGrade 16 (.ifCond .ne) 23 19 := ⟨7, by decide +kernel, rfl, rfl⟩
theorem r_1_mayHaveGrade_23 : RC M_X1_mayHaveGrade 23 0 24 := ⟨⟨by decide, by decide⟩, Or.inl ⟨by decide +kernel, rfl⟩⟩
theorem r_1_mayHaveGrade_24 : RW M_X1_mayHaveGrade 24 .ireturn 25 1 := ⟨by decide +kernel, rfl⟩
theorem r_1_mayHaveGrade_19 : RC M_X1_mayHaveGrade 19 1 20 := ⟨⟨by decide, by decide⟩, Or.inl ⟨by decide +kernel, rfl⟩⟩
theorem r_1_mayHaveGrade_20 : RB M_X1_mayHaveGrade 20 .goto 24 23 := ⟨4, by decide +kernel, rfl, rfl⟩
theorem r_1_mayHaveGrade_5 : RL M_X1_mayHaveGrade 5 2 6 := Or.inl ⟨2, by decide +kernel, rfl, rfl⟩
theorem r_1_mayHaveGrade_6 : RC M_X1_mayHaveGrade 6 1 7 := ⟨⟨by decide, by decide⟩, Or.inl ⟨by decide +kernel, rfl⟩⟩
theorem r_1_mayHaveGrade_7 : RC M_X1_mayHaveGrade 7 9 9 := ⟨⟨by decide, by decide⟩, Or.inr (Or.inl ⟨by decide +kernel, by decide, rfl⟩)⟩
theorem r_1_mayHaveGrade_9 : RKs M_X1_mayHaveGrade M_X11_within 9 3 12 := ⟨56, by decide +kernel, Or.inr (by decide +kernel), ok_M_X11_within, rfl⟩
theorem r_1_mayHaveGrade_12 : RB M_X1_mayHaveGrade 12 .goto 24 15 := ⟨12, by decide +kernel, rfl, rfl⟩
theorem r_1_enrol_0 : RL M_X1_enrol 0 1 1 := Or.inl ⟨1, by decide +kernel, rfl, rfl⟩
theorem r_1_enrol_1 : RC M_X1_enrol 1 1 2 := ⟨⟨by decide, by decide⟩, Or.inl ⟨by decide +kernel, rfl⟩⟩
theorem r_1_enrol_2 : RC M_X1_enrol 2 7 4 := ⟨⟨by decide, by decide⟩, Or.inr (Or.inl ⟨by decide +kernel, by decide, rfl⟩)⟩
theorem r_1_enrol_4 : RKs M_X1_enrol M_X11_within 4 3 7 := ⟨56, by decide +kernel, Or.inr (by decide +kernel), ok_M_X11_within, rfl⟩
theorem r_1_enrol_7 : RB M_X1_enrol 7 (.ifCond .eq) 31 10 := ⟨24, by decide +kernel, rfl, rfl⟩
theorem r_1_enrol_31 : RC M_X1_enrol 31 (-1) 32 := ⟨⟨by decide, by decide⟩, Or.inl ⟨by decide +kernel, rfl⟩⟩
theorem r_1_enrol_32 : RW M_X1_enrol 32 .ireturn 33 1 := ⟨by decide +kernel, rfl⟩
theorem r_1_enrol_10 : RA M_X1_enrol 10 0 11 := Or.inl ⟨0, by decide +kernel, rfl, rfl⟩
theorem r_1_enrol_11 : RG M_X1_enrol 11 1 4 14 := ⟨48, _, by decide +kernel, rfl, by decide, wd_f1_48, rfl, rfl⟩
theorem r_1_enrol_14 : RL M_X1_enrol 14 2 15 := Or.inl ⟨2, by decide +kernel, rfl, rfl⟩
theorem r_1_enrol_15 : RKv M_X1_enrol M_X2_isCamp 15 1 2 18 := ⟨98, by decide +kernel, wd_m1_98, ok_M_X2_isCamp, wd_s2_isCamp, rfl⟩
theorem r_1_enrol_18 : RB M_X1_enrol 18 (.ifCond .eq) 31 21 := ⟨13, by decide +kernel, rfl, rfl⟩
theorem r_1_enrol_21 : RL M_X1_enrol 21 3 22 := Or.inl ⟨3, by decide +kernel, rfl, rfl⟩
theorem r_1_enrol_22 : RC M_X1_enrol 22 0 23 := ⟨⟨by decide, by decide⟩, Or.inl ⟨by decide +kernel, rfl⟩⟩
theorem r_1_enrol_23 : RC M_X1_enrol 23 99 25 := ⟨⟨by decide, by decide⟩, Or.inr (Or.inl ⟨by decide +kernel, by decide, rfl⟩)⟩
theorem r_1_enrol_25 : RKs M_X1_enrol M_X11_within 25 3 28 := ⟨56, by decide +kernel, Or.inr (by decide +kernel), ok_M_X11_within, rfl⟩
theorem r_1_enrol_28 : RB M_X1_enrol 28 (.ifCond .ne) 33 31 := ⟨5, by decide +kernel, rfl, rfl⟩
theorem r_1_enrol_33 : RA M_X1_enrol 33 0 34 := Or.inl ⟨0, by decide +kernel, rfl, rfl⟩
theorem r_1_enrol_34 : RG M_X1_enrol 34 1 4 37 := ⟨48, _, by decide +kernel, rfl, by decide, wd_f1_48, rfl, rfl⟩
theorem r_1_enrol_37 : RG M_X1_enrol 37 2 0 40 := ⟨102, _, by decide +kernel, rfl, by decide, wd_f1_102, rfl, rfl⟩
theorem r_1_enrol_40 : RL M_X1_enrol 40 2 41 := Or.inl ⟨2, by decide +kernel, rfl, rfl⟩
theorem r_1_enrol_41 : RW M_X1_enrol 41 .iaload 42 1 := ⟨by decide +kernel, rfl⟩
theorem r_1_enrol_42 : RS M_X1_enrol 42 6 44 := ⟨by decide, Or.inr ⟨by decide +kernel, rfl⟩⟩
theorem r_1_enrol_44 : RA M_X1_enrol 44 0 45 := Or.inl ⟨0, by decide +kernel, rfl, rfl⟩
theorem r_1_enrol_45 : RL M_X1_enrol 45 1 46 := Or.inl ⟨1, by decide +kernel, rfl, rfl⟩
theorem r_1_enrol_46 : RL M_X1_enrol 46 4 48 := Or.inr ⟨by decide +kernel, rfl⟩
theorem r_1_enrol_48 : RL M_X1_enrol 48 6 50 := Or.inr ⟨by decide +kernel, rfl⟩
theorem r_1_enrol_50 : RKv M_X1_enrol M_X1_mayGoWith 50 3 1 53 := ⟨105, by decide +kernel, wd_m1_105, ok_M_X1_mayGoWith, wd_s1_mayGoWith, rfl⟩
theorem r_1_enrol_53 : RB M_X1_enrol 53 (.ifCond .eq) 66 56 := ⟨13, by decide +kernel, rfl, rfl⟩
theorem r_1_enrol_66 : RC M_X1_enrol 66 (-1) 67 := ⟨⟨by decide, by decide⟩, Or.inl ⟨by decide +kernel, rfl⟩⟩
theorem r_1_enrol_67 : RW M_X1_enrol 67 .ireturn 68 1 := ⟨by decide +kernel, rfl⟩
theorem r_1_enrol_56 : RA M_X1_enrol 56 0 57 := Or.inl ⟨0, by decide +kernel, rfl, rfl⟩
theorem r_1_enrol_57 : RL M_X1_enrol 57 1 58 := Or.inl ⟨1, by decide +kernel, rfl, rfl⟩
theorem r_1_enrol_58 : RL M_X1_enrol 58 5 60 := Or.inr ⟨by decide +kernel, rfl⟩
theorem r_1_enrol_60 : RKv M_X1_enrol M_X1_mayHaveGrade 60 2 1 63 := ⟨108, by decide +kernel, wd_m1_108, ok_M_X1_mayHaveGrade, wd_s1_mayHaveGrade, rfl⟩
theorem r_1_enrol_63 : RB M_X1_enrol 63 (.ifCond .ne) 68 66 := ⟨5, by decide +kernel, rfl, rfl⟩
theorem r_1_enrol_68 : RA M_X1_enrol 68 0 69 := Or.inl ⟨0, by decide +kernel, rfl, rfl⟩
theorem r_1_enrol_69 : RL M_X1_enrol 69 2 70 := Or.inl ⟨2, by decide +kernel, rfl, rfl⟩
theorem r_1_enrol_70 : RKv M_X1_enrol M_X1_hasBed 70 1 1 73 := ⟨112, by decide +kernel, wd_m1_112, ok_M_X1_hasBed, wd_s1_hasBed, rfl⟩
theorem r_1_enrol_73 : RB M_X1_enrol 73 (.ifCond .ne) 79 76 := ⟨6, by decide +kernel, rfl, rfl⟩
theorem r_1_enrol_79 : RA M_X1_enrol 79 0 80 := Or.inl ⟨0, by decide +kernel, rfl, rfl⟩
theorem r_1_enrol_80 : RG M_X1_enrol 80 1 1 83 := ⟨52, _, by decide +kernel, rfl, by decide, wd_f1_52, rfl, rfl⟩
theorem r_1_enrol_83 : RC M_X1_enrol 83 150 86 := ⟨⟨by decide, by decide⟩, Or.inr (Or.inr (Or.inl ⟨by decide +kernel, by decide, rfl⟩))⟩
theorem r_1_enrol_86 : RB M_X1_enrol 86 (.if_icmp .ge) 96 89 := ⟨10, by decide +kernel, rfl, rfl⟩
theorem r_1_enrol_96 : RC M_X1_enrol 96 (-2) 98 := ⟨⟨by decide, by decide⟩, Or.inr (Or.inl ⟨by decide +kernel, by decide, rfl⟩)⟩
theorem r_1_enrol_98 : RW M_X1_enrol 98 .ireturn 99 1 := ⟨by decide +kernel, rfl⟩
theorem r_1_enrol_89 : RA M_X1_enrol 89 0 90 := Or.inl ⟨0, by decide +kernel, rfl, rfl⟩
theorem r_1_enrol_90 : RKv M_X1_enrol M_X1_hasStay 90 0 1 93 := ⟨115, by decide +kernel, wd_m1_115, ok_M_X1_hasStay, wd_s1_hasStay, rfl⟩
theorem r_1_enrol_93 : RB M_X1_enrol 93 (.ifCond .ne) 99 96 := ⟨6, by decide +kernel, rfl, rfl⟩
theorem r_1_enrol_99 : RN M_X1_enrol 99 102 := ⟨11, by decide +kernel, wd_cl1_11, wd_inst3, wd_ini3, rfl⟩
theorem r_1_enrol_102 : RW M_X1_enrol 102 .dup 103 1 := ⟨by decide +kernel, rfl⟩
theorem r_1_enrol_103 : RA M_X1_enrol 103 0 104 := Or.inl ⟨0, by decide +kernel, rfl, rfl⟩
theorem r_1_enrol_104 : RG M_X1_enrol 104 1 1 107 := ⟨52, _, by decide +kernel, rfl, by decide, wd_f1_52, rfl, rfl⟩
theorem r_1_enrol_107 : RL M_X1_enrol 107 1 108 := Or.inl ⟨1, by decide +kernel, rfl, rfl⟩
theorem r_1_enrol_108 : RL M_X1_enrol 108 6 110 := Or.inr ⟨by decide +kernel, rfl⟩
theorem r_1_enrol_110 : RL M_X1_enrol 110 3 111 := Or.inl ⟨3, by decide +kernel, rfl, rfl⟩
theorem r_1_enrol_111 : RL M_X1_enrol 111 4 113 := Or.inr ⟨by decide +kernel, rfl⟩
theorem r_1_enrol_113 : RA M_X1_enrol 113 0 114 := Or.inl ⟨0, by decide +kernel, rfl, rfl⟩
theorem r_1_enrol_114 : RG M_X1_enrol 114 1 2 117 := ⟨60, _, by decide +kernel, rfl, by decide, wd_f1_60, rfl, rfl⟩
theorem r_1_enrol_117 : RKi M_X1_enrol M_X3_init 117 6 3 120 := ⟨119, by decide +kernel, wd_m1_119, ok_M_X3_init, rfl, rfl, rfl⟩
theorem r_1_enrol_120 : RT M_X1_enrol 120 7 122 := ⟨by decide, Or.inr ⟨by decide +kernel, rfl⟩⟩
theorem r_1_enrol_122 : RA M_X1_enrol 122 7 124 := Or.inr ⟨by decide +kernel, rfl⟩
theorem r_1_enrol_124 : RL M_X1_enrol 124 5 126 := Or.inr ⟨by decide +kernel, rfl⟩
theorem r_1_enrol_126 : RP M_X1_enrol 126 3 6 129 := ⟨88, _, by decide +kernel, rfl, by decide, wd_f1_88, rfl, Or.inl rfl, rfl⟩
theorem r_1_enrol_129 : RA M_X1_enrol 129 7 131 := Or.inr ⟨by decide +kernel, rfl⟩
theorem r_1_enrol_131 : RL M_X1_enrol 131 2 132 := Or.inl ⟨2, by decide +kernel, rfl, rfl⟩
theorem r_1_enrol_132 : RP M_X1_enrol 132 3 10 135 := ⟨76, _, by decide +kernel, rfl, by decide, wd_f1_76, rfl, Or.inl rfl, rfl⟩
theorem r_1_enrol_135 : RA M_X1_enrol 135 0 136 := Or.inl ⟨0, by decide +kernel, rfl, rfl⟩
theorem r_1_enrol_136 : RG M_X1_enrol 136 1 0 139 := ⟨13, _, by decide +kernel, rfl, by decide, wd_f1_13, rfl, rfl⟩
theorem r_1_enrol_139 : RA M_X1_enrol 139 0 140 := Or.inl ⟨0, by decide +kernel, rfl, rfl⟩
theorem r_1_enrol_140 : RG M_X1_enrol 140 1 1 143 := ⟨52, _, by decide +kernel, rfl, by decide, wd_f1_52, rfl, rfl⟩
theorem r_1_enrol_143 : RA M_X1_enrol 143 7 145 := Or.inr ⟨by decide +kernel, rfl⟩
theorem r_1_enrol_145 : RW M_X1_enrol 145 .aastore 146 1 := ⟨by decide +kernel, rfl⟩
theorem r_1_enrol_146 : RA M_X1_enrol 146 0 147 := Or.inl ⟨0, by decide +kernel, rfl, rfl⟩
theorem r_1_enrol_147 : RW M_X1_enrol 147 .dup 148 1 := ⟨by decide +kernel, rfl⟩
theorem r_1_enrol_148 : RG M_X1_enrol 148 1 1 151 := ⟨52, _, by decide +kernel, rfl, by decide, wd_f1_52, rfl, rfl⟩
theorem r_1_enrol_151 : RC M_X1_enrol 151 1 152 := ⟨⟨by decide, by decide⟩, Or.inl ⟨by decide +kernel, rfl⟩⟩
theorem r_1_enrol_152 : RW M_X1_enrol 152 .iadd 153 1 := ⟨by decide +kernel, rfl⟩
theorem r_1_enrol_153 : RP M_X1_enrol 153 1 1 156 := ⟨52, _, by decide +kernel, rfl, by decide, wd_f1_52, rfl, Or.inl rfl, rfl⟩
theorem r_1_enrol_156 : RA M_X1_enrol 156 0 157 := Or.inl ⟨0, by decide +kernel, rfl, rfl⟩
theorem r_1_enrol_157 : RA M_X1_enrol 157 7 159 := Or.inr ⟨by decide +kernel, rfl⟩
theorem r_1_enrol_159 : RKv M_X1_enrol M_X1_beginStay 159 1 1 162 := ⟨85, by decide +kernel, wd_m1_85, ok_M_X1_beginStay, wd_s1_beginStay, rfl⟩
theorem r_1_enrol_162 : RA M_X1_enrol 162 7 164 := Or.inr ⟨by decide +kernel, rfl⟩
theorem r_1_enrol_164 : RG M_X1_enrol 164 3 0 167 := ⟨122, _, by decide +kernel, rfl, by decide, wd_f1_122, rfl, rfl⟩
theorem r_1_enrol_167 : RW M_X1_enrol 167 .ireturn 168 1 := ⟨by decide +kernel, rfl⟩
theorem r_1_enrol_76 : RC M_X1_enrol 76 (-3) 78 := ⟨⟨by decide, by decide⟩, Or.inr (Or.inl ⟨by decide +kernel, by decide, rfl⟩)⟩
theorem r_1_enrol_78 : RW M_X1_enrol 78 .ireturn 79 1 := ⟨by decide +kernel, rfl⟩
theorem r_12_person_0 : RL M_X12_person 0 1 1 := Or.inl ⟨1, by decide +kernel, rfl, rfl⟩
theorem r_12_person_1 : RC M_X12_person 1 1 2 := ⟨⟨by decide, by decide⟩, Or.inl ⟨by decide +kernel, rfl⟩⟩
theorem r_12_person_2 : RC M_X12_person 2 7 4 := ⟨⟨by decide, by decide⟩, Or.inr (Or.inl ⟨by decide +kernel, by decide, rfl⟩)⟩
theorem r_12_person_4 : RKs M_X12_person M_X12_within 4 3 7 := ⟨240, by decide +kernel, Or.inl wd_m12_240, ok_M_X12_within, rfl⟩
theorem r_12_person_7 : RB M_X12_person 7 (.ifCond .eq) 28 10 := ⟨21, by decide +kernel, rfl, rfl⟩
theorem r_12_person_28 : RC M_X12_person 28 (-1) 29 := ⟨⟨by decide, by decide⟩, Or.inl ⟨by decide +kernel, rfl⟩⟩
theorem r_12_person_29 : RW M_X12_person 29 .ireturn 30 1 := ⟨by decide +kernel, rfl⟩
theorem r_12_person_10 : RA M_X12_person 10 0 11 := Or.inl ⟨0, by decide +kernel, rfl, rfl⟩
theorem r_12_person_11 : RL M_X12_person 11 2 12 := Or.inl ⟨2, by decide +kernel, rfl, rfl⟩
theorem r_12_person_12 : RKv M_X12_person M_X12_isCamp 12 1 12 15 := ⟨247, by decide +kernel, wd_m12_247, ok_M_X12_isCamp, wd_s12_isCamp, rfl⟩
theorem r_12_person_15 : RB M_X12_person 15 (.ifCond .eq) 28 18 := ⟨13, by decide +kernel, rfl, rfl⟩
theorem r_12_person_18 : RL M_X12_person 18 3 19 := Or.inl ⟨3, by decide +kernel, rfl, rfl⟩
theorem r_12_person_19 : RC M_X12_person 19 0 20 := ⟨⟨by decide, by decide⟩, Or.inl ⟨by decide +kernel, rfl⟩⟩
theorem r_12_person_20 : RC M_X12_person 20 99 22 := ⟨⟨by decide, by decide⟩, Or.inr (Or.inl ⟨by decide +kernel, by decide, rfl⟩)⟩
theorem r_12_person_22 : RKs M_X12_person M_X12_within 22 3 25 := ⟨240, by decide +kernel, Or.inl wd_m12_240, ok_M_X12_within, rfl⟩
theorem r_12_person_25 : RB M_X12_person 25 (.ifCond .ne) 30 28 := ⟨5, by decide +kernel, rfl, rfl⟩
theorem r_12_person_72 : RS M_X12_person 72 6 74 := ⟨by decide, Or.inr ⟨by decide +kernel, rfl⟩⟩
theorem r_12_person_74 : RL M_X12_person 74 6 76 := Or.inr ⟨by decide +kernel, rfl⟩
theorem r_12_person_76 : RB M_X12_person 76 (.ifCond .eq) 103 79 := ⟨27, by decide +kernel, rfl, rfl⟩
theorem r_12_person_103 : RC M_X12_person 103 (-1) 104 := ⟨⟨by decide, by decide⟩, Or.inl ⟨by decide +kernel, rfl⟩⟩
theorem r_12_person_104 : RW M_X12_person 104 .ireturn 105 1 := ⟨by decide +kernel, rfl⟩
theorem r_12_person_79 : RL M_X12_person 79 1 80 := Or.inl ⟨1, by decide +kernel, rfl, rfl⟩
theorem r_12_person_80 : RC M_X12_person 80 2 81 := ⟨⟨by decide, by decide⟩, Or.inl ⟨by decide +kernel, rfl⟩⟩
theorem r_12_person_81 : RB M_X12_person 81 (.if_icmp .ne) 98 84 := ⟨17, by decide +kernel, rfl, rfl⟩
theorem r_12_person_98 : RL M_X12_person 98 5 100 := Or.inr ⟨by decide +kernel, rfl⟩
theorem r_12_person_100 : RB M_X12_person 100 (.ifCond .eq) 105 103 := ⟨5, by decide +kernel, rfl, rfl⟩
theorem r_12_person_105 : RA M_X12_person 105 0 106 := Or.inl ⟨0, by decide +kernel, rfl, rfl⟩
theorem r_12_person_106 : RL M_X12_person 106 2 107 := Or.inl ⟨2, by decide +kernel, rfl, rfl⟩
theorem r_12_person_107 : RKv M_X12_person M_X12_inBeds 107 1 12 110 := ⟨281, by decide +kernel, wd_m12_281, ok_M_X12_inBeds, wd_s12_inBeds, rfl⟩
theorem r_12_person_110 : RA M_X12_person 110 0 111 := Or.inl ⟨0, by decide +kernel, rfl, rfl⟩
theorem r_12_person_111 : RG M_X12_person 111 12 2 114 := ⟨13, _, by decide +kernel, rfl, by decide, wd_f12_13, rfl, rfl⟩
theorem r_12_person_114 : RL M_X12_person 114 2 115 := Or.inl ⟨2, by decide +kernel, rfl, rfl⟩
theorem r_12_person_115 : RW M_X12_person 115 .iaload 116 1 := ⟨by decide +kernel, rfl⟩
theorem r_12_person_116 : RB M_X12_person 116 (.if_icmp .lt) 122 119 := ⟨6, by decide +kernel, rfl, rfl⟩
theorem r_12_person_122 : RA M_X12_person 122 0 123 := Or.inl ⟨0, by decide +kernel, rfl, rfl⟩
theorem r_12_person_123 : RG M_X12_person 123 12 17 126 := ⟨251, _, by decide +kernel, rfl, by decide, wd_f12_251, rfl, rfl⟩
theorem r_12_person_126 : RC M_X12_person 126 150 129 := ⟨⟨by decide, by decide⟩, Or.inr (Or.inr (Or.inl ⟨by decide +kernel, by decide, rfl⟩))⟩
theorem r_12_person_129 : RB M_X12_person 129 (.if_icmp .eq) 147 132 := ⟨18, by decide +kernel, rfl, rfl⟩
theorem r_12_person_147 : RC M_X12_person 147 (-2) 149 := ⟨⟨by decide, by decide⟩, Or.inr (Or.inl ⟨by decide +kernel, by decide, rfl⟩)⟩
theorem r_12_person_149 : RW M_X12_person 149 .ireturn 150 1 := ⟨by decide +kernel, rfl⟩
theorem r_12_person_132 : RA M_X12_person 132 0 133 := Or.inl ⟨0, by decide +kernel, rfl, rfl⟩
theorem r_12_person_133 : RG M_X12_person 133 12 22 136 := ⟨265, _, by decide +kernel, rfl, by decide, wd_f12_265, rfl, rfl⟩
theorem r_12_person_136 : RA M_X12_person 136 0 137 := Or.inl ⟨0, by decide +kernel, rfl, rfl⟩
theorem r_12_person_137 : RKv M_X12_person M_X12_onTheWay 137 0 12 140 := ⟨285, by decide +kernel, wd_m12_285, ok_M_X12_onTheWay, wd_s12_onTheWay, rfl⟩
theorem r_12_person_140 : RW M_X12_person 140 .iadd 141 1 := ⟨by decide +kernel, rfl⟩
theorem r_12_person_141 : RC M_X12_person 141 400 144 := ⟨⟨by decide, by decide⟩, Or.inr (Or.inr (Or.inl ⟨by decide +kernel, by decide, rfl⟩))⟩
theorem r_12_person_144 : RB M_X12_person 144 (.if_icmp .ne) 150 147 := ⟨6, by decide +kernel, rfl, rfl⟩
theorem r_12_person_150 : RA M_X12_person 150 0 151 := Or.inl ⟨0, by decide +kernel, rfl, rfl⟩
theorem r_12_person_151 : RG M_X12_person 151 12 17 154 := ⟨251, _, by decide +kernel, rfl, by decide, wd_f12_251, rfl, rfl⟩
theorem r_12_person_154 : RS M_X12_person 154 7 156 := ⟨by decide, Or.inr ⟨by decide +kernel, rfl⟩⟩
theorem r_12_person_156 : RA M_X12_person 156 0 157 := Or.inl ⟨0, by decide +kernel, rfl, rfl⟩
theorem r_12_person_157 : RG M_X12_person 157 12 6 160 := ⟨22, _, by decide +kernel, rfl, by decide, wd_f12_22, rfl, rfl⟩
theorem r_12_person_160 : RL M_X12_person 160 7 162 := Or.inr ⟨by decide +kernel, rfl⟩
theorem r_12_person_162 : RL M_X12_person 162 1 163 := Or.inl ⟨1, by decide +kernel, rfl, rfl⟩
theorem r_12_person_163 : RW M_X12_person 163 .iastore 164 1 := ⟨by decide +kernel, rfl⟩
theorem r_12_person_164 : RA M_X12_person 164 0 165 := Or.inl ⟨0, by decide +kernel, rfl, rfl⟩
theorem r_12_person_165 : RG M_X12_person 165 12 7 168 := ⟨25, _, by decide +kernel, rfl, by decide, wd_f12_25, rfl, rfl⟩
theorem r_12_person_168 : RL M_X12_person 168 7 170 := Or.inr ⟨by decide +kernel, rfl⟩
theorem r_12_person_170 : RA M_X12_person 170 0 171 := Or.inl ⟨0, by decide +kernel, rfl, rfl⟩
theorem r_12_person_171 : RG M_X12_person 171 12 1 174 := ⟨9, _, by decide +kernel, rfl, by decide, wd_f12_9, rfl, rfl⟩
theorem r_12_person_174 : RL M_X12_person 174 2 175 := Or.inl ⟨2, by decide +kernel, rfl, rfl⟩
theorem r_12_person_175 : RW M_X12_person 175 .iaload 176 1 := ⟨by decide +kernel, rfl⟩
theorem r_12_person_176 : RW M_X12_person 176 .iastore 177 1 := ⟨by decide +kernel, rfl⟩
theorem r_12_person_177 : RA M_X12_person 177 0 178 := Or.inl ⟨0, by decide +kernel, rfl, rfl⟩
theorem r_12_person_178 : RG M_X12_person 178 12 10 181 := ⟨34, _, by decide +kernel, rfl, by decide, wd_f12_34, rfl, rfl⟩
theorem r_12_person_181 : RL M_X12_person 181 7 183 := Or.inr ⟨by decide +kernel, rfl⟩
theorem r_12_person_183 : RL M_X12_person 183 3 184 := Or.inl ⟨3, by decide +kernel, rfl, rfl⟩
theorem r_12_person_184 : RW M_X12_person 184 .iastore 185 1 := ⟨by decide +kernel, rfl⟩
theorem r_12_person_185 : RA M_X12_person 185 0 186 := Or.inl ⟨0, by decide +kernel, rfl, rfl⟩
theorem r_12_person_186 : RG M_X12_person 186 12 11 189 := ⟨37, _, by decide +kernel, rfl, by decide, wd_f12_37, rfl, rfl⟩
theorem r_12_person_189 : RL M_X12_person 189 7 191 := Or.inr ⟨by decide +kernel, rfl⟩
theorem r_12_person_191 : RL M_X12_person 191 4 193 := Or.inr ⟨by decide +kernel, rfl⟩
theorem r_12_person_193 : RW M_X12_person 193 .iastore 194 1 := ⟨by decide +kernel, rfl⟩
theorem r_12_person_194 : RA M_X12_person 194 0 195 := Or.inl ⟨0, by decide +kernel, rfl, rfl⟩
theorem r_12_person_195 : RG M_X12_person 195 12 12 198 := ⟨40, _, by decide +kernel, rfl, by decide, wd_f12_40, rfl, rfl⟩
theorem r_12_person_198 : RL M_X12_person 198 7 200 := Or.inr ⟨by decide +kernel, rfl⟩
theorem r_12_person_200 : RL M_X12_person 200 5 202 := Or.inr ⟨by decide +kernel, rfl⟩
theorem r_12_person_202 : RW M_X12_person 202 .iastore 203 1 := ⟨by decide +kernel, rfl⟩
theorem r_12_person_203 : RA M_X12_person 203 0 204 := Or.inl ⟨0, by decide +kernel, rfl, rfl⟩
theorem r_12_person_204 : RG M_X12_person 204 12 13 207 := ⟨43, _, by decide +kernel, rfl, by decide, wd_f12_43, rfl, rfl⟩
theorem r_12_person_207 : RL M_X12_person 207 7 209 := Or.inr ⟨by decide +kernel, rfl⟩
theorem r_12_person_209 : RA M_X12_person 209 0 210 := Or.inl ⟨0, by decide +kernel, rfl, rfl⟩
theorem r_12_person_210 : RG M_X12_person 210 12 0 213 := ⟨268, _, by decide +kernel, rfl, by decide, wd_f12_268, rfl, rfl⟩
theorem r_12_person_213 : RW M_X12_person 213 .iastore 214 1 := ⟨by decide +kernel, rfl⟩
theorem r_12_person_214 : RA M_X12_person 214 0 215 := Or.inl ⟨0, by decide +kernel, rfl, rfl⟩
theorem r_12_person_215 : RG M_X12_person 215 12 14 218 := ⟨46, _, by decide +kernel, rfl, by decide, wd_f12_46, rfl, rfl⟩
theorem r_12_person_218 : RL M_X12_person 218 7 220 := Or.inr ⟨by decide +kernel, rfl⟩
theorem r_12_person_220 : RA M_X12_person 220 0 221 := Or.inl ⟨0, by decide +kernel, rfl, rfl⟩
theorem r_12_person_221 : RG M_X12_person 221 12 0 224 := ⟨268, _, by decide +kernel, rfl, by decide, wd_f12_268, rfl, rfl⟩
theorem r_12_person_224 : RW M_X12_person 224 .iastore 225 1 := ⟨by decide +kernel, rfl⟩
theorem r_12_person_225 : RA M_X12_person 225 0 226 := Or.inl ⟨0, by decide +kernel, rfl, rfl⟩
theorem r_12_person_226 : RW M_X12_person 226 .dup 227 1 := ⟨by decide +kernel, rfl⟩
theorem r_12_person_227 : RG M_X12_person 227 12 17 230 := ⟨251, _, by decide +kernel, rfl, by decide, wd_f12_251, rfl, rfl⟩
theorem r_12_person_230 : RC M_X12_person 230 1 231 := ⟨⟨by decide, by decide⟩, Or.inl ⟨by decide +kernel, rfl⟩⟩
theorem r_12_person_231 : RW M_X12_person 231 .iadd 232 1 := ⟨by decide +kernel, rfl⟩
theorem r_12_person_232 : RP M_X12_person 232 12 17 235 := ⟨251, _, by decide +kernel, rfl, by decide, wd_f12_251, rfl, Or.inl rfl, rfl⟩
theorem r_12_person_235 : RA M_X12_person 235 0 236 := Or.inl ⟨0, by decide +kernel, rfl, rfl⟩
theorem r_12_person_236 : RL M_X12_person 236 7 238 := Or.inr ⟨by decide +kernel, rfl⟩
theorem r_12_person_238 : RL M_X12_person 238 2 239 := Or.inl ⟨2, by decide +kernel, rfl, rfl⟩
theorem r_12_person_239 : RKv M_X12_person M_X12_enters 239 2 12 242 := ⟨271, by decide +kernel, wd_m12_271, ok_M_X12_enters, wd_s12_enters, rfl⟩
theorem r_12_person_242 : RL M_X12_person 242 7 244 := Or.inr ⟨by decide +kernel, rfl⟩
theorem r_12_person_244 : RW M_X12_person 244 .ireturn 245 1 := ⟨by decide +kernel, rfl⟩
theorem r_12_person_119 : RC M_X12_person 119 (-3) 121 := ⟨⟨by decide, by decide⟩, Or.inr (Or.inl ⟨by decide +kernel, by decide, rfl⟩)⟩
theorem r_12_person_121 : RW M_X12_person 121 .ireturn 122 1 := ⟨by decide +kernel, rfl⟩
theorem r_12_person_84 : RL M_X12_person 84 5 86 := Or.inr ⟨by decide +kernel, rfl⟩
theorem r_12_person_86 : RC M_X12_person 86 1 87 := ⟨⟨by decide, by decide⟩, Or.inl ⟨by decide +kernel, rfl⟩⟩
theorem r_12_person_87 : RC M_X12_person 87 9 89 := ⟨⟨by decide, by decide⟩, Or.inr (Or.inl ⟨by decide +kernel, by decide, rfl⟩)⟩
theorem r_12_person_89 : RKs M_X12_person M_X12_within 89 3 92 := ⟨240, by decide +kernel, Or.inl wd_m12_240, ok_M_X12_within, rfl⟩
theorem r_12_person_92 : RB M_X12_person 92 (.ifCond .eq) 103 95 := ⟨11, by decide +kernel, rfl, rfl⟩
theorem r_12_person_95 : RB M_X12_person 95 .goto 105 98 := ⟨10, by decide +kernel, rfl, rfl⟩
theorem r_12_person_30 : RL M_X12_person 30 4 32 := Or.inr ⟨by decide +kernel, rfl⟩
theorem r_12_person_32 : RC M_X12_person 32 (-1) 33 := ⟨⟨by decide, by decide⟩, Or.inl ⟨by decide +kernel, rfl⟩⟩
theorem r_12_person_33 : RB M_X12_person 33 (.if_icmp .eq) 67 36 := ⟨34, by decide +kernel, rfl, rfl⟩
theorem r_12_person_67 : RC M_X12_person 67 1 68 := ⟨⟨by decide, by decide⟩, Or.inl ⟨by decide +kernel, rfl⟩⟩
theorem r_12_person_68 : RB M_X12_person 68 .goto 72 71 := ⟨4, by decide +kernel, rfl, rfl⟩
theorem r_12_person_36 : RL M_X12_person 36 1 37 := Or.inl ⟨1, by decide +kernel, rfl, rfl⟩
theorem r_12_person_37 : RC M_X12_person 37 6 39 := ⟨⟨by decide, by decide⟩, Or.inr (Or.inl ⟨by decide +kernel, by decide, rfl⟩)⟩
theorem r_12_person_39 : RB M_X12_person 39 (.if_icmp .ne) 71 42 := ⟨32, by decide +kernel, rfl, rfl⟩
theorem r_12_person_71 : RC M_X12_person 71 0 72 := ⟨⟨by decide, by decide⟩, Or.inl ⟨by decide +kernel, rfl⟩⟩
theorem r_12_person_42 : RA M_X12_person 42 0 43 := Or.inl ⟨0, by decide +kernel, rfl, rfl⟩
theorem r_12_person_43 : RL M_X12_person 43 4 45 := Or.inr ⟨by decide +kernel, rfl⟩
theorem r_12_person_45 : RKv M_X12_person M_X12_isPerson 45 1 12 48 := ⟨278, by decide +kernel, wd_m12_278, ok_M_X12_isPerson, wd_s12_isPerson, rfl⟩
theorem r_12_person_48 : RB M_X12_person 48 (.ifCond .eq) 71 51 := ⟨23, by decide +kernel, rfl, rfl⟩
theorem r_12_person_51 : RA M_X12_person 51 0 52 := Or.inl ⟨0, by decide +kernel, rfl, rfl⟩
theorem r_12_person_52 : RG M_X12_person 52 12 7 55 := ⟨25, _, by decide +kernel, rfl, by decide, wd_f12_25, rfl, rfl⟩
theorem r_12_person_55 : RL M_X12_person 55 4 57 := Or.inr ⟨by decide +kernel, rfl⟩
theorem r_12_person_57 : RW M_X12_person 57 .iaload 58 1 := ⟨by decide +kernel, rfl⟩
theorem r_12_person_58 : RA M_X12_person 58 0 59 := Or.inl ⟨0, by decide +kernel, rfl, rfl⟩
theorem r_12_person_59 : RG M_X12_person 59 12 1 62 := ⟨9, _, by decide +kernel, rfl, by decide, wd_f12_9, rfl, rfl⟩
theorem r_12_person_62 : RL M_X12_person 62 2 63 := Or.inl ⟨2, by decide +kernel, rfl, rfl⟩
theorem r_12_person_63 : RW M_X12_person 63 .iaload 64 1 := ⟨by decide +kernel, rfl⟩
theorem r_12_person_64 : RB M_X12_person 64 (.if_icmp .ne) 71 67 := ⟨7, by decide +kernel, rfl, rfl⟩
set_option maxRecDepth 10000 in
theorem sp_X3_init {l : Launch} {w : Wo} {d : Nat} {G : PH} {P : Option PV → PH → Prop} {p n k s a v t : Int} (hP : P none (sF (sF (sF (sF (sF (sF (sF (sF (sF G 3 (p) 0 (n)) 3 (p) 1 (k)) 3 (p) 2 (s)) 3 (p) 3 (a)) 3 (p) 4 (v)) 3 (p) 5 (t)) 3 (p) 7 (t)) 3 (p) 9 (t)) 3 (p) 11 (-1))) : PW l w M_X3_init (d + 1) 0 [some (vR 3 (p)), some (vI (n)), some (vI (k)), some (vI (s)), some (vI (a)), some (vI (v)), some (vI (t))] [] G P := by
  refine pw_aload r_3_init_0 rfl ?_
  refine pw_objInit r_3_init_1 rfl (Nat.le_of_ble_eq_true rfl) rfl ?_
  refine pw_aload r_3_init_4 rfl ?_
  refine pw_iload r_3_init_5 rfl ?_
  refine pw_putI r_3_init_6 (by decide +kernel) fs_3_0 (by decide) ?_
  refine pw_aload r_3_init_9 rfl ?_
  refine pw_iload r_3_init_10 rfl ?_
  refine pw_putI r_3_init_11 (by decide +kernel) fs_3_1 (by decide) ?_
  refine pw_aload r_3_init_14 rfl ?_
  refine pw_iload r_3_init_15 rfl ?_
  refine pw_putI r_3_init_16 (by decide +kernel) fs_3_2 (by decide) ?_
  refine pw_aload r_3_init_19 rfl ?_
  refine pw_iload r_3_init_20 rfl ?_
  refine pw_putI r_3_init_22 (by decide +kernel) fs_3_3 (by decide) ?_
  refine pw_aload r_3_init_25 rfl ?_
  refine pw_iload r_3_init_26 rfl ?_
  refine pw_putI r_3_init_28 (by decide +kernel) fs_3_4 (by decide) ?_
  refine pw_aload r_3_init_31 rfl ?_
  refine pw_iload r_3_init_32 rfl ?_
  refine pw_putI r_3_init_34 (by decide +kernel) fs_3_5 (by decide) ?_
  refine pw_aload r_3_init_37 rfl ?_
  refine pw_iload r_3_init_38 rfl ?_
  refine pw_putI r_3_init_40 (by decide +kernel) fs_3_7 (by decide) ?_
  refine pw_aload r_3_init_43 rfl ?_
  refine pw_iload r_3_init_44 rfl ?_
  refine pw_putI r_3_init_46 (by decide +kernel) fs_3_9 (by decide) ?_
  refine pw_aload r_3_init_49 rfl ?_
  refine pw_const r_3_init_50 ?_
  refine pw_putI r_3_init_51 (by decide +kernel) fs_3_11 (by decide) ?_
  refine pw_vret r_3_init_54 rfl (Nat.le_refl _) ⟨rfl, ?_⟩
  exact hP
set_option maxRecDepth 10000 in
theorem sp_X1_mayGoWith {l : Launch} {w : Wo} {d : Nat} {G : PH} {P : Option PV → PH → Prop} {k v s : Int} (hp : ∀ i, 0 ≤ i → i < (gF G 1 0 1) → gD G 30 0 i = some (3, i)) (hsz : 0 ≤ (gF G 1 0 1) ∧ (gF G 1 0 1) ≤ 150) (hP : P (some (vI (b2i (v = -1 ∨ (k = 6 ∧ (0 ≤ v ∧ v < (gF G 1 0 1)) ∧ (gF G 3 (v) 2) = s))))) G) : PW l w M_X1_mayGoWith (d + 1) 0 [some (vR 1 (0)), some (vI (k)), some (vI (v)), some (vI (s)), none] [] G P := by
  refine pw_iload r_1_mayGoWith_0 rfl ?_
  refine pw_const r_1_mayGoWith_1 ?_
  refine pw_icmp_ne r_1_mayGoWith_2 (fun h02 => ?_) (fun h02 => ?_)
  · skip
    refine pw_aload r_1_mayGoWith_7 rfl ?_
    refine pw_iload r_1_mayGoWith_8 rfl ?_
    refine pw_callV (av := [vI (v)]) (st := []) (ls0 := [some (vR 1 (0)), some (vI (v))]) r_1_mayGoWith_9 rfl rfl rfl (Nat.le_refl _) ?_
    refine sp_X1_get (by first | assumption | exact hp | omega) (by first | assumption | exact hsz | omega) ?_ ?_
    · skip
      intros
      refine pw_astore (ls' := [some (vR 1 (0)), some (vI (k)), some (vI (v)), some (vI (s)), some (vN)]) r_1_mayGoWith_12 rfl rfl ?_
      refine pw_iload r_1_mayGoWith_14 rfl ?_
      refine pw_const r_1_mayGoWith_15 ?_
      refine pw_icmp_ne r_1_mayGoWith_17 (fun h17 => ?_) (fun h17 => ?_)
      · skip
        refine pw_const r_1_mayGoWith_38 ?_
        refine pw_zret r_1_mayGoWith_39 rfl (Or.inl rfl) (Nat.le_refl _) ⟨rfl, ?_⟩
        exact pe hP (by first | rfl | omega | exact (b2i_t (by omega)).symm | exact (b2i_f (by omega)).symm)
      · skip
        refine pw_aload r_1_mayGoWith_20 rfl ?_
        refine pw_ifnull r_1_mayGoWith_22 (fun _ => ?_) (fun _ q => by cases q)
        refine pw_const r_1_mayGoWith_38 ?_
        refine pw_zret r_1_mayGoWith_39 rfl (Or.inl rfl) (Nat.le_refl _) ⟨rfl, ?_⟩
        exact pe hP (by first | rfl | omega | exact (b2i_t (by omega)).symm | exact (b2i_f (by omega)).symm)
    · skip
      intros
      refine pw_astore (ls' := [some (vR 1 (0)), some (vI (k)), some (vI (v)), some (vI (s)), some (vR 3 (v))]) r_1_mayGoWith_12 rfl rfl ?_
      refine pw_iload r_1_mayGoWith_14 rfl ?_
      refine pw_const r_1_mayGoWith_15 ?_
      refine pw_icmp_ne r_1_mayGoWith_17 (fun h17 => ?_) (fun h17 => ?_)
      · skip
        refine pw_const r_1_mayGoWith_38 ?_
        refine pw_zret r_1_mayGoWith_39 rfl (Or.inl rfl) (Nat.le_refl _) ⟨rfl, ?_⟩
        exact pe hP (by first | rfl | omega | exact (b2i_t (by omega)).symm | exact (b2i_f (by omega)).symm)
      · skip
        refine pw_aload r_1_mayGoWith_20 rfl ?_
        refine pw_ifnull r_1_mayGoWith_22 (fun q => by cases q) (fun _ _ => ?_)
        refine pw_aload r_1_mayGoWith_25 rfl ?_
        refine pw_getI r_1_mayGoWith_27 fs_3_2 (by decide) ?_
        refine pw_iload r_1_mayGoWith_30 rfl ?_
        refine pw_icmp_ne r_1_mayGoWith_31 (fun h31 => ?_) (fun h31 => ?_)
        · skip
          refine pw_const r_1_mayGoWith_38 ?_
          refine pw_zret r_1_mayGoWith_39 rfl (Or.inl rfl) (Nat.le_refl _) ⟨rfl, ?_⟩
          exact pe hP (by first | rfl | omega | exact (b2i_t (by omega)).symm | exact (b2i_f (by omega)).symm)
        · skip
          refine pw_const r_1_mayGoWith_34 ?_
          refine pw_goto r_1_mayGoWith_35 ?_
          refine pw_zret r_1_mayGoWith_39 rfl (Or.inr rfl) (Nat.le_refl _) ⟨rfl, ?_⟩
          exact pe hP (by first | rfl | omega | exact (b2i_t (by omega)).symm | exact (b2i_f (by omega)).symm)
  · skip
    refine pw_const r_1_mayGoWith_5 ?_
    refine pw_zret r_1_mayGoWith_6 rfl (Or.inr rfl) (Nat.le_refl _) ⟨rfl, ?_⟩
    exact pe hP (by first | rfl | omega | exact (b2i_t (by omega)).symm | exact (b2i_f (by omega)).symm)
set_option maxRecDepth 10000 in
theorem sp_X1_mayHaveGrade {l : Launch} {w : Wo} {d : Nat} {G : PH} {P : Option PV → PH → Prop} {k g : Int} (hP : P (some (vI (b2i ((k = 2 ∧ 1 ≤ g ∧ g ≤ 9) ∨ (k ≠ 2 ∧ g = 0))))) G) : PW l w M_X1_mayHaveGrade (d + 1) 0 [some (vR 1 (0)), some (vI (k)), some (vI (g))] [] G P := by
  refine pw_iload r_1_mayHaveGrade_0 rfl ?_
  refine pw_const r_1_mayHaveGrade_1 ?_
  refine pw_icmp_ne r_1_mayHaveGrade_2 (fun h02 => ?_) (fun h02 => ?_)
  · skip
    refine pw_iload r_1_mayHaveGrade_15 rfl ?_
    refine pw_if_ne r_1_mayHaveGrade_16 (fun h16 => ?_) (fun h16 => ?_)
    · skip
      refine pw_const r_1_mayHaveGrade_23 ?_
      refine pw_zret r_1_mayHaveGrade_24 rfl (Or.inl rfl) (Nat.le_refl _) ⟨rfl, ?_⟩
      first | (exact pe hP (by first | rfl | omega | exact (b2i_t (by omega)).symm | exact (b2i_f (by omega)).symm)) | exact pe hP (b2i_congr (by omega))
    · skip
      refine pw_const r_1_mayHaveGrade_19 ?_
      refine pw_goto r_1_mayHaveGrade_20 ?_
      refine pw_zret r_1_mayHaveGrade_24 rfl (Or.inr rfl) (Nat.le_refl _) ⟨rfl, ?_⟩
      first | (exact pe hP (by first | rfl | omega | exact (b2i_t (by omega)).symm | exact (b2i_f (by omega)).symm)) | exact pe hP (b2i_congr (by omega))
  · skip
    refine pw_iload r_1_mayHaveGrade_5 rfl ?_
    refine pw_const r_1_mayHaveGrade_6 ?_
    refine pw_const r_1_mayHaveGrade_7 ?_
    refine pw_callS (av := [vI (g), vI (1), vI (9)]) (st := []) (ls0 := [some (vI (g)), some (vI (1)), some (vI (9))]) r_1_mayHaveGrade_9 rfl rfl rfl (Nat.le_refl _) ?_
    refine sp_X11_within  ?_
    refine pw_goto r_1_mayHaveGrade_12 ?_
    refine pw_zret r_1_mayHaveGrade_24 rfl (b2i_01 _) (Nat.le_refl _) ⟨rfl, ?_⟩
    first | (exact pe hP (by first | rfl | omega | exact (b2i_t (by omega)).symm | exact (b2i_f (by omega)).symm)) | exact pe hP (b2i_congr (by omega))
set_option maxRecDepth 10000 in
theorem sp_X1_enrol {l : Launch} {w : Wo} {d : Nat} {G : PH} {Φ : Wo → Option PV → PH → Prop} {k c a v g z : Int} (hp : ∀ i, 0 ≤ i → i < (gF G 1 0 1) → gD G 30 0 i = some (3, i)) (hsz : 0 ≤ (gF G 1 0 1) ∧ (gF G 1 0 1) ≤ 150) (hst : 0 ≤ (gF G 1 0 3) ∧ (gF G 1 0 3) ≤ 400) (hz : (gF G 1 0 1) = z) (hnp : z = (w.1.2 : Int)) (hc : 0 ≤ (gF G 2 0 2) ∧ (gF G 2 0 2) ≤ 16) (h1 : ¬ (((1 ≤ k ∧ k ≤ 7) ∧ (0 ≤ c ∧ c < (gF G 2 0 2)) ∧ 0 ≤ a ∧ a ≤ 99) ∧ (v = -1 ∨ (k = 6 ∧ (0 ≤ v ∧ v < (gF G 1 0 1)) ∧ (gF G 3 (v) 2) = (gA G 41 0 (c)))) ∧ ((k = 2 ∧ 1 ≤ g ∧ g ≤ 9) ∨ (k ≠ 2 ∧ g = 0))) → Φ w (some (vI (-1))) G) (h2 : (((1 ≤ k ∧ k ≤ 7) ∧ (0 ≤ c ∧ c < (gF G 2 0 2)) ∧ 0 ≤ a ∧ a ≤ 99) ∧ (v = -1 ∨ (k = 6 ∧ (0 ≤ v ∧ v < (gF G 1 0 1)) ∧ (gF G 3 (v) 2) = (gA G 41 0 (c)))) ∧ ((k = 2 ∧ 1 ≤ g ∧ g ≤ 9) ∨ (k ≠ 2 ∧ g = 0))) → ¬ cnt (fun i => (gF G 3 (i) 8) ≤ 1 ∧ (gF G 3 (i) 10) = c) (gF G 1 0 1) < (gA G 42 0 (c)) → Φ w (some (vI (-3))) G) (h3 : (((1 ≤ k ∧ k ≤ 7) ∧ (0 ≤ c ∧ c < (gF G 2 0 2)) ∧ 0 ≤ a ∧ a ≤ 99) ∧ (v = -1 ∨ (k = 6 ∧ (0 ≤ v ∧ v < (gF G 1 0 1)) ∧ (gF G 3 (v) 2) = (gA G 41 0 (c)))) ∧ ((k = 2 ∧ 1 ≤ g ∧ g ≤ 9) ∨ (k ≠ 2 ∧ g = 0))) → cnt (fun i => (gF G 3 (i) 8) ≤ 1 ∧ (gF G 3 (i) 10) = c) (gF G 1 0 1) < (gA G 42 0 (c)) → (150 ≤ (gF G 1 0 1) ∨ ¬ ((gF G 1 0 3) + cnt (fun i => (gF G 3 (i) 8) = 1 ∧ 0 ≤ (gF G 3 (i) 10) ∧ (gF G 3 (i) 10) < (gF G 2 0 2)) (gF G 1 0 1) < 400)) → Φ w (some (vI (-2))) G) (h4 : (((1 ≤ k ∧ k ≤ 7) ∧ (0 ≤ c ∧ c < (gF G 2 0 2)) ∧ 0 ≤ a ∧ a ≤ 99) ∧ (v = -1 ∨ (k = 6 ∧ (0 ≤ v ∧ v < (gF G 1 0 1)) ∧ (gF G 3 (v) 2) = (gA G 41 0 (c)))) ∧ ((k = 2 ∧ 1 ≤ g ∧ g ≤ 9) ∨ (k ≠ 2 ∧ g = 0))) → cnt (fun i => (gF G 3 (i) 8) ≤ 1 ∧ (gF G 3 (i) 10) = c) (gF G 1 0 1) < (gA G 42 0 (c)) → (gF G 1 0 1) < 150 → ((gF G 1 0 3) + cnt (fun i => (gF G 3 (i) 8) = 1 ∧ 0 ≤ (gF G 3 (i) 10) ∧ (gF G 3 (i) 10) < (gF G 2 0 2)) (gF G 1 0 1) < 400) → ∀ w1 : Wo, w1.2 = w.2 → w1.1.2 = w.1.2 + 1 → Agr w w1 → Φ w1 (some (vI z)) (sF (sA (sA (sA (sA (sF (sD (sF (sF ((sF (sF (sF (sF (sF (sF (sF (sF (sF ((nwG G z)) 3 (z) 0 (z)) 3 (z) 1 (k)) 3 (z) 2 ((gA G 41 0 (c)))) 3 (z) 3 (a)) 3 (z) 4 (v)) 3 (z) 5 ((gF G 1 0 2))) 3 (z) 7 ((gF G 1 0 2))) 3 (z) 9 ((gF G 1 0 2))) 3 (z) 11 (-1))) 3 (z) 6 (g)) 3 (z) 10 (c)) 30 0 (z) (some (3, z))) 1 0 1 (z + 1)) 32 0 ((gF G 1 0 3)) (z)) 33 0 ((gF G 1 0 3)) (c)) 34 0 ((gF G 1 0 3)) ((gF G 1 0 2))) 35 0 ((gF G 1 0 3)) (-1)) 1 0 3 ((gF G 1 0 3) + 1))) : PWg l w M_X1_enrol (d + 3) 1 0 0 [some (vR 1 (0)), some (vI (k)), some (vI (c)), some (vI (a)), some (vI (v)), some (vI (g)), none, none] [] G Φ := by
  refine pw_iload r_1_enrol_0 rfl ?_
  refine pw_const r_1_enrol_1 ?_
  refine pw_const r_1_enrol_2 ?_
  refine pw_callS (av := [vI (k), vI (1), vI (7)]) (st := []) (ls0 := [some (vI (k)), some (vI (1)), some (vI (7))]) r_1_enrol_4 rfl rfl rfl (by decide) ?_
  refine sp_X11_within  ?_
  refine pw_if_eqB r_1_enrol_7 (fun h07 => ?_) (fun h07 => ?_)
  · skip
    refine pw_const r_1_enrol_31 ?_
    refine pw_iret r_1_enrol_32 rfl (by decide) ?_
    first | exact h1 (by omega) | exact h2 (by omega) (by omega) | exact h3 (by omega) (by omega) (by omega) | exact h4 (by omega) (by omega) (by omega) (by omega) w1 hw1 hw2 hw3
  · skip
    refine pw_aload r_1_enrol_10 rfl ?_
    refine pw_getR r_1_enrol_11 fs_1_4 (by decide) ?_
    refine pw_iload r_1_enrol_14 rfl ?_
    refine pw_callV (av := [vI (c)]) (st := []) (ls0 := [some (vR 2 (0)), some (vI (c))]) r_1_enrol_15 rfl rfl rfl (by decide) ?_
    refine sp_X2_isCamp (by first | assumption | exact hc | omega) ?_
    refine pw_if_eqB r_1_enrol_18 (fun h18 => ?_) (fun h18 => ?_)
    · skip
      refine pw_const r_1_enrol_31 ?_
      refine pw_iret r_1_enrol_32 rfl (by decide) ?_
      first | exact h1 (by omega) | exact h2 (by omega) (by omega) | exact h3 (by omega) (by omega) (by omega) | exact h4 (by omega) (by omega) (by omega) (by omega) w1 hw1 hw2 hw3
    · skip
      refine pw_iload r_1_enrol_21 rfl ?_
      refine pw_const r_1_enrol_22 ?_
      refine pw_const r_1_enrol_23 ?_
      refine pw_callS (av := [vI (a), vI (0), vI (99)]) (st := []) (ls0 := [some (vI (a)), some (vI (0)), some (vI (99))]) r_1_enrol_25 rfl rfl rfl (by decide) ?_
      refine sp_X11_within  ?_
      refine pw_if_neB r_1_enrol_28 (fun h28 => ?_) (fun h28 => ?_)
      · skip
        refine pw_aload r_1_enrol_33 rfl ?_
        refine pw_getR r_1_enrol_34 fs_1_4 (by decide) ?_
        refine pw_getR r_1_enrol_37 fs_2_0 (by decide) ?_
        refine pw_iload r_1_enrol_40 rfl ?_
        refine pw_iald r_1_enrol_41 sh41 (by omega) (by omega) ?_
        refine pw_istore (ls' := [some (vR 1 (0)), some (vI (k)), some (vI (c)), some (vI (a)), some (vI (v)), some (vI (g)), some (vI (gA G 41 (0) (c))), none]) r_1_enrol_42 rfl rfl ?_
        refine pw_aload r_1_enrol_44 rfl ?_
        refine pw_iload r_1_enrol_45 rfl ?_
        refine pw_iload r_1_enrol_46 rfl ?_
        refine pw_iload r_1_enrol_48 rfl ?_
        refine pw_callV (av := [vI (k), vI (v), vI (gA G 41 (0) (c))]) (st := []) (ls0 := [some (vR 1 (0)), some (vI (k)), some (vI (v)), some (vI (gA G 41 (0) (c))), none]) r_1_enrol_50 rfl rfl rfl (by decide) ?_
        refine sp_X1_mayGoWith (by first | assumption | exact hp | omega) (by first | assumption | exact hsz | omega) ?_
        refine pw_if_eqB r_1_enrol_53 (fun h53 => ?_) (fun h53 => ?_)
        · skip
          refine pw_const r_1_enrol_66 ?_
          refine pw_iret r_1_enrol_67 rfl (by decide) ?_
          first | exact h1 (by omega) | exact h2 (by omega) (by omega) | exact h3 (by omega) (by omega) (by omega) | exact h4 (by omega) (by omega) (by omega) (by omega) w1 hw1 hw2 hw3
        · skip
          refine pw_aload r_1_enrol_56 rfl ?_
          refine pw_iload r_1_enrol_57 rfl ?_
          refine pw_iload r_1_enrol_58 rfl ?_
          refine pw_callV (av := [vI (k), vI (g)]) (st := []) (ls0 := [some (vR 1 (0)), some (vI (k)), some (vI (g))]) r_1_enrol_60 rfl rfl rfl (by decide) ?_
          refine sp_X1_mayHaveGrade  ?_
          refine pw_if_neB r_1_enrol_63 (fun h63 => ?_) (fun h63 => ?_)
          · skip
            refine pw_aload r_1_enrol_68 rfl ?_
            refine pw_iload r_1_enrol_69 rfl ?_
            refine pw_callV (av := [vI (c)]) (st := []) (ls0 := [some (vR 1 (0)), some (vI (c)), none, none, none]) r_1_enrol_70 rfl rfl rfl (by decide) ?_
            refine sp_X1_hasBed (by first | assumption | exact hp | omega) (by first | assumption | exact hsz | omega) (by first | assumption | exact hc | omega) ?_
            refine pw_if_neB r_1_enrol_73 (fun h73 => ?_) (fun h73 => ?_)
            · skip
              refine pw_aload r_1_enrol_79 rfl ?_
              refine pw_getI r_1_enrol_80 fs_1_1 (by decide) ?_
              refine pw_const r_1_enrol_83 ?_
              refine pw_icmp_ge r_1_enrol_86 (fun h86 => ?_) (fun h86 => ?_)
              · skip
                refine pw_const r_1_enrol_96 ?_
                refine pw_iret r_1_enrol_98 rfl (by decide) ?_
                first | exact h1 (by omega) | exact h2 (by omega) (by omega) | exact h3 (by omega) (by omega) (by omega) | exact h4 (by omega) (by omega) (by omega) (by omega) w1 hw1 hw2 hw3
              · skip
                refine pw_aload r_1_enrol_89 rfl ?_
                refine pw_callV (av := []) (st := []) (ls0 := [some (vR 1 (0)), none, none, none]) r_1_enrol_90 rfl rfl rfl (by decide) ?_
                refine sp_X1_hasStay (by first | assumption | exact hp | omega) (by first | assumption | exact hsz | omega) (by first | assumption | exact hst | omega) (by first | assumption | exact hc | omega) ?_
                refine pw_if_neB r_1_enrol_93 (fun h93 => ?_) (fun h93 => ?_)
                · skip
                  have hcw := cnt_le (fun i => (gF G 3 (i) 8) = 1 ∧ 0 ≤ (gF G 3 (i) 10) ∧ (gF G 3 (i) 10) < (gF G 2 0 2)) hsz.1
                  refine pw_new r_1_enrol_99 (by decide) (fun w1 hw1 hw2 hw3 => ?_)
                  rw [newG_eq hnp, ← hnp]
                  refine pw_dup r_1_enrol_102 rfl ?_
                  refine pw_aload r_1_enrol_103 rfl ?_
                  refine pw_getIv (v := gF G 1 (0) 1) r_1_enrol_104 fs_1_1 (by decide) (by first | rfl | simp [gF_sF, gF_sA, gF_uA, gF_sD, gA_sF, gA_sA, gA_uA, gA_sD, gD_sF, gD_sA, gD_uA, gD_sD]) ?_
                  refine pw_top (b := z) (hz) ?_
                  refine pw_iload r_1_enrol_107 rfl ?_
                  refine pw_iload r_1_enrol_108 rfl ?_
                  refine pw_iload r_1_enrol_110 rfl ?_
                  refine pw_iload r_1_enrol_111 rfl ?_
                  refine pw_aload r_1_enrol_113 rfl ?_
                  refine pw_getIv (v := gF G 1 (0) 2) r_1_enrol_114 fs_1_2 (by decide) (by first | rfl | simp [gF_sF, gF_sA, gF_uA, gF_sD, gA_sF, gA_sA, gA_uA, gA_sD, gD_sF, gD_sA, gD_uA, gD_sD]) ?_
                  refine pw_callI (av := [vI (z), vI (k), vI (gA G 41 (0) (c)), vI (a), vI (v), vI (gF G 1 (0) 2)]) (st := [vR 3 (z)]) (ls0 := [some (vR 3 (z)), some (vI (z)), some (vI (k)), some (vI (gA G 41 (0) (c))), some (vI (a)), some (vI (v)), some (vI (gF G 1 (0) 2))]) r_1_enrol_117 rfl rfl rfl (by decide) ?_
                  refine sp_X3_init  ?_
                  refine pw_eqG (G' := sF (sF (sF (sF (sF (sF (sF (sF (sF (nwG G z) 3 (z) 0 (z)) 3 (z) 1 (k)) 3 (z) 2 ((gA G 41 (0) (c)))) 3 (z) 3 (a)) 3 (z) 4 (v)) 3 (z) 5 ((gF G 1 (0) 2))) 3 (z) 7 ((gF G 1 (0) 2))) 3 (z) 9 ((gF G 1 (0) 2))) 3 (z) 11 (-1)) (by first | rfl | simp (disch := decide) [gF_sF, gF_sA, gF_uA, gF_sD, gA_sF, gA_sA, gA_uA, gA_sD, gD_sF, gD_sA, gD_uA, gD_sD]) ?_
                  refine pw_astore (ls' := [some (vR 1 (0)), some (vI (k)), some (vI (c)), some (vI (a)), some (vI (v)), some (vI (g)), some (vI (gA G 41 (0) (c))), some (vR 3 (z))]) r_1_enrol_120 rfl rfl ?_
                  refine pw_aload r_1_enrol_122 rfl ?_
                  refine pw_iload r_1_enrol_124 rfl ?_
                  refine pw_putI r_1_enrol_126 (by decide +kernel) fs_3_6 (by decide) ?_
                  refine pw_aload r_1_enrol_129 rfl ?_
                  refine pw_iload r_1_enrol_131 rfl ?_
                  refine pw_putI r_1_enrol_132 (by decide +kernel) fs_3_10 (by decide) ?_
                  refine pw_aload r_1_enrol_135 rfl ?_
                  refine pw_getR r_1_enrol_136 fs_1_0 (by decide) ?_
                  refine pw_aload r_1_enrol_139 rfl ?_
                  refine pw_getIv (v := gF G 1 (0) 1) r_1_enrol_140 fs_1_1 (by decide) (by first | rfl | simp [gF_sF, gF_sA, gF_uA, gF_sD, gA_sF, gA_sA, gA_uA, gA_sD, gD_sF, gD_sA, gD_uA, gD_sD]) ?_
                  refine pw_top (b := z) (hz) ?_
                  refine pw_aload r_1_enrol_143 rfl ?_
                  refine pw_aastP r_1_enrol_145 (by omega) (by omega) ?_
                  refine pw_aload r_1_enrol_146 rfl ?_
                  refine pw_dup r_1_enrol_147 rfl ?_
                  refine pw_getIv (v := gF G 1 (0) 1) r_1_enrol_148 fs_1_1 (by decide) (by first | rfl | simp [gF_sF, gF_sA, gF_uA, gF_sD, gA_sF, gA_sA, gA_uA, gA_sD, gD_sF, gD_sA, gD_uA, gD_sD]) ?_
                  refine pw_top (b := z) (hz) ?_
                  refine pw_const r_1_enrol_151 ?_
                  refine pw_iadd r_1_enrol_152 (by omega) ?_
                  refine pw_putI r_1_enrol_153 (by decide +kernel) fs_1_1 (by decide) ?_
                  refine pw_aload r_1_enrol_156 rfl ?_
                  refine pw_aload r_1_enrol_157 rfl ?_
                  refine pw_callV (av := [vR 3 (z)]) (st := []) (ls0 := [some (vR 1 (0)), some (vR 3 (z))]) r_1_enrol_159 rfl rfl rfl (by decide) ?_
                  refine sp_X1_beginStay (hst) (by simp [gF_sF, gF_sD, gF_sA]) ?_ ?_
                  · skip
                    intro qf; exact absurd (show 400 ≤ (gF G 1 0 3) from qf) (by omega)
                  · skip
                    intros
                    refine pw_eqG (G' := sF (sA (sA (sA (sA (sF (sD (sF (sF (sF (sF (sF (sF (sF (sF (sF (sF (sF (nwG G z) 3 (z) 0 (z)) 3 (z) 1 (k)) 3 (z) 2 ((gA G 41 (0) (c)))) 3 (z) 3 (a)) 3 (z) 4 (v)) 3 (z) 5 ((gF G 1 (0) 2))) 3 (z) 7 ((gF G 1 (0) 2))) 3 (z) 9 ((gF G 1 (0) 2))) 3 (z) 11 (-1)) 3 (z) 6 (g)) 3 (z) 10 (c)) 30 (0) (z) (some (3, z))) 1 (0) 1 ((z + 1))) 32 (0) ((gF G 1 (0) 3)) (z)) 33 (0) ((gF G 1 (0) 3)) ((c))) 34 (0) ((gF G 1 (0) 3)) ((gF G 1 (0) 2))) 35 (0) ((gF G 1 (0) 3)) (-1)) 1 (0) 3 ((gF G 1 (0) 3) + 1)) (by simp [gF_sF, gF_sA, gF_sD, gA_sF, gA_sA, gA_sD, gF_nwG, gA_nwG]) ?_
                    refine pw_aload r_1_enrol_162 rfl ?_
                    refine pw_getIv (v := z) r_1_enrol_164 fs_3_0 (by decide) (by first | rfl | simp [gF_sF, gF_sA, gF_uA, gF_sD, gA_sF, gA_sA, gA_uA, gA_sD, gD_sF, gD_sA, gD_uA, gD_sD]) ?_
                    refine pw_iret r_1_enrol_167 rfl (by decide) ?_
                    first | exact h1 (by omega) | exact h2 (by omega) (by omega) | exact h3 (by omega) (by omega) (by omega) | exact h4 (by omega) (by omega) (by omega) (by omega) w1 hw1 hw2 hw3
                · skip
                  refine pw_const r_1_enrol_96 ?_
                  refine pw_iret r_1_enrol_98 rfl (by decide) ?_
                  first | exact h1 (by omega) | exact h2 (by omega) (by omega) | exact h3 (by omega) (by omega) (by omega) | exact h4 (by omega) (by omega) (by omega) (by omega) w1 hw1 hw2 hw3
            · skip
              refine pw_const r_1_enrol_76 ?_
              refine pw_iret r_1_enrol_78 rfl (by decide) ?_
              first | exact h1 (by omega) | exact h2 (by omega) (by omega) | exact h3 (by omega) (by omega) (by omega) | exact h4 (by omega) (by omega) (by omega) (by omega) w1 hw1 hw2 hw3
          · skip
            refine pw_const r_1_enrol_66 ?_
            refine pw_iret r_1_enrol_67 rfl (by decide) ?_
            first | exact h1 (by omega) | exact h2 (by omega) (by omega) | exact h3 (by omega) (by omega) (by omega) | exact h4 (by omega) (by omega) (by omega) (by omega) w1 hw1 hw2 hw3
      · skip
        refine pw_const r_1_enrol_31 ?_
        refine pw_iret r_1_enrol_32 rfl (by decide) ?_
        first | exact h1 (by omega) | exact h2 (by omega) (by omega) | exact h3 (by omega) (by omega) (by omega) | exact h4 (by omega) (by omega) (by omega) (by omega) w1 hw1 hw2 hw3
set_option maxRecDepth 10000 in
theorem sp_X12_person {l : Launch} {w : Wo} {d : Nat} {G : PH} {P : Option PV → PH → Prop} {k c a v g z : Int} (hsz : 0 ≤ (gF G 12 0 17) ∧ (gF G 12 0 17) ≤ 150) (hst : 0 ≤ (gF G 12 0 22) ∧ (gF G 12 0 22) ≤ 400) (hz : (gF G 12 0 17) = z) (hroom : (gF G 12 0 22) + cnt (fun i => (gA G 206 0 (i)) = 1 ∧ (gA G 207 0 (i)) < 16) (gF G 12 0 17) ≤ 400) (hc : 0 ≤ (gF G 12 0 3) ∧ (gF G 12 0 3) ≤ 16) (h1 : ¬ (((1 ≤ k ∧ k ≤ 7) ∧ (0 ≤ c ∧ c < (gF G 12 0 3)) ∧ 0 ≤ a ∧ a ≤ 99) ∧ (v = -1 ∨ (k = 6 ∧ (0 ≤ v ∧ v < (gF G 12 0 17)) ∧ (gA G 205 0 (v)) = (gA G 200 0 (c)))) ∧ ((k = 2 ∧ 1 ≤ g ∧ g ≤ 9) ∨ (k ≠ 2 ∧ g = 0))) → P (some (vI (-1))) G) (h2 : (((1 ≤ k ∧ k ≤ 7) ∧ (0 ≤ c ∧ c < (gF G 12 0 3)) ∧ 0 ≤ a ∧ a ≤ 99) ∧ (v = -1 ∨ (k = 6 ∧ (0 ≤ v ∧ v < (gF G 12 0 17)) ∧ (gA G 205 0 (v)) = (gA G 200 0 (c)))) ∧ ((k = 2 ∧ 1 ≤ g ∧ g ≤ 9) ∨ (k ≠ 2 ∧ g = 0))) → ¬ cnt (fun i => (gA G 206 0 (i)) ≤ 1 ∧ (gA G 207 0 (i)) = c) (gF G 12 0 17) < (gA G 201 0 (c)) → P (some (vI (-3))) G) (h3 : (((1 ≤ k ∧ k ≤ 7) ∧ (0 ≤ c ∧ c < (gF G 12 0 3)) ∧ 0 ≤ a ∧ a ≤ 99) ∧ (v = -1 ∨ (k = 6 ∧ (0 ≤ v ∧ v < (gF G 12 0 17)) ∧ (gA G 205 0 (v)) = (gA G 200 0 (c)))) ∧ ((k = 2 ∧ 1 ≤ g ∧ g ≤ 9) ∨ (k ≠ 2 ∧ g = 0))) → cnt (fun i => (gA G 206 0 (i)) ≤ 1 ∧ (gA G 207 0 (i)) = c) (gF G 12 0 17) < (gA G 201 0 (c)) → ((gF G 12 0 17) = 150 ∨ (gF G 12 0 22) + cnt (fun i => (gA G 206 0 (i)) = 1 ∧ (gA G 207 0 (i)) < 16) (gF G 12 0 17) = 400) → P (some (vI (-2))) G) (h4 : (((1 ≤ k ∧ k ≤ 7) ∧ (0 ≤ c ∧ c < (gF G 12 0 3)) ∧ 0 ≤ a ∧ a ≤ 99) ∧ (v = -1 ∨ (k = 6 ∧ (0 ≤ v ∧ v < (gF G 12 0 17)) ∧ (gA G 205 0 (v)) = (gA G 200 0 (c)))) ∧ ((k = 2 ∧ 1 ≤ g ∧ g ≤ 9) ∨ (k ≠ 2 ∧ g = 0))) → cnt (fun i => (gA G 206 0 (i)) ≤ 1 ∧ (gA G 207 0 (i)) = c) (gF G 12 0 17) < (gA G 201 0 (c)) → (gF G 12 0 17) < 150 → (gF G 12 0 22) + cnt (fun i => (gA G 206 0 (i)) = 1 ∧ (gA G 207 0 (i)) < 16) (gF G 12 0 17) ≠ 400 → (gF G 12 0 22) < 400 → P (some (vI z)) (sF (sA (sA (sA (sA (sA (sA (sA (sA (sF (sA (sA (sA (sA (sA (sA (sA G 204 0 (z) (k)) 205 0 (z) ((gA G 200 0 (c)))) 208 0 (z) (a)) 209 0 (z) (v)) 210 0 (z) (g)) 211 0 (z) ((gF G 12 0 0))) 212 0 (z) ((gF G 12 0 0))) 12 0 17 (z + 1)) 206 0 (z) (0)) 207 0 (z) (c)) 213 0 (z) ((gF G 12 0 0))) 214 0 (z) (-1)) 215 0 ((gF G 12 0 22)) (z)) 216 0 ((gF G 12 0 22)) (c)) 217 0 ((gF G 12 0 22)) ((gF G 12 0 0))) 218 0 ((gF G 12 0 22)) (-1)) 12 0 22 ((gF G 12 0 22) + 1))) : PW l w M_X12_person (d + 2) 0 [some (vR 12 (0)), some (vI (k)), some (vI (c)), some (vI (a)), some (vI (v)), some (vI (g)), none, none] [] G P := by
  refine pw_iload r_12_person_0 rfl ?_
  refine pw_const r_12_person_1 ?_
  refine pw_const r_12_person_2 ?_
  refine pw_callS (av := [vI (k), vI (1), vI (7)]) (st := []) (ls0 := [some (vI (k)), some (vI (1)), some (vI (7))]) r_12_person_4 rfl rfl rfl (Nat.le_refl _) ?_
  refine sp_X12_within  ?_
  refine pw_if_eqB r_12_person_7 (fun h07 => ?_) (fun h07 => ?_)
  · skip
    refine pw_const r_12_person_28 ?_
    refine pw_iret r_12_person_29 rfl (Nat.le_refl _) ⟨rfl, ?_⟩
    first | exact h1 (by omega) | exact h2 (by omega) (by omega) | exact h3 (by omega) (by omega) (by omega) | exact h4 (by omega) (by omega) (by omega) (by omega) hlt
  · skip
    refine pw_aload r_12_person_10 rfl ?_
    refine pw_iload r_12_person_11 rfl ?_
    refine pw_callV (av := [vI (c)]) (st := []) (ls0 := [some (vR 12 (0)), some (vI (c))]) r_12_person_12 rfl rfl rfl (Nat.le_refl _) ?_
    refine sp_X12_isCamp  ?_
    refine pw_if_eqB r_12_person_15 (fun h15 => ?_) (fun h15 => ?_)
    · skip
      refine pw_const r_12_person_28 ?_
      refine pw_iret r_12_person_29 rfl (Nat.le_refl _) ⟨rfl, ?_⟩
      first | exact h1 (by omega) | exact h2 (by omega) (by omega) | exact h3 (by omega) (by omega) (by omega) | exact h4 (by omega) (by omega) (by omega) (by omega) hlt
    · skip
      refine pw_iload r_12_person_18 rfl ?_
      refine pw_const r_12_person_19 ?_
      refine pw_const r_12_person_20 ?_
      refine pw_callS (av := [vI (a), vI (0), vI (99)]) (st := []) (ls0 := [some (vI (a)), some (vI (0)), some (vI (99))]) r_12_person_22 rfl rfl rfl (Nat.le_refl _) ?_
      refine sp_X12_within  ?_
      refine pw_if_neB r_12_person_25 (fun h25 => ?_) (fun h25 => ?_)
      · skip
        have L72 : ∀ (t : Int), (ht : (t = 1 ∧ (v = -1 ∨ (k = 6 ∧ (0 ≤ v ∧ v < (gF G 12 0 17)) ∧ (gA G 205 0 (v)) = (gA G 200 0 (c))))) ∨ (t = 0 ∧ ¬ (v = -1 ∨ (k = 6 ∧ (0 ≤ v ∧ v < (gF G 12 0 17)) ∧ (gA G 205 0 (v)) = (gA G 200 0 (c)))))) → PW l w M_X12_person (d + 2) 72 [some (vR 12 (0)), some (vI (k)), some (vI (c)), some (vI (a)), some (vI (v)), some (vI (g)), none, none] [vI (t)] G P := by
          intro t ht
          refine pw_istore (ls' := [some (vR 12 (0)), some (vI (k)), some (vI (c)), some (vI (a)), some (vI (v)), some (vI (g)), some (vI (t)), none]) r_12_person_72 rfl rfl ?_
          refine pw_iload r_12_person_74 rfl ?_
          refine pw_if_eq r_12_person_76 (fun h76 => ?_) (fun h76 => ?_)
          · skip
            refine pw_const r_12_person_103 ?_
            refine pw_iret r_12_person_104 rfl (Nat.le_refl _) ⟨rfl, ?_⟩
            first | exact h1 (by omega) | exact h2 (by omega) (by omega) | exact h3 (by omega) (by omega) (by omega) | exact h4 (by omega) (by omega) (by omega) (by omega) hlt
          · skip
            refine pw_iload r_12_person_79 rfl ?_
            refine pw_const r_12_person_80 ?_
            refine pw_icmp_ne r_12_person_81 (fun h81 => ?_) (fun h81 => ?_)
            · skip
              refine pw_iload r_12_person_98 rfl ?_
              refine pw_if_eq r_12_person_100 (fun h100 => ?_) (fun h100 => ?_)
              · skip
                refine pw_aload r_12_person_105 rfl ?_
                refine pw_iload r_12_person_106 rfl ?_
                refine pw_callV (av := [vI (c)]) (st := []) (ls0 := [some (vR 12 (0)), some (vI (c)), none, none]) r_12_person_107 rfl rfl rfl (Nat.le_refl _) ?_
                refine sp_X12_inBeds (by first | assumption | exact hsz | omega) ?_
                refine pw_aload r_12_person_110 rfl ?_
                refine pw_getR r_12_person_111 fs_12_2 (by decide) ?_
                refine pw_iload r_12_person_114 rfl ?_
                refine pw_iald r_12_person_115 sh201 (by omega) (by omega) ?_
                refine pw_icmp_lt r_12_person_116 (fun h116 => ?_) (fun h116 => ?_)
                · skip
                  refine pw_aload r_12_person_122 rfl ?_
                  refine pw_getI r_12_person_123 fs_12_17 (by decide) ?_
                  refine pw_const r_12_person_126 ?_
                  refine pw_icmp_eq r_12_person_129 (fun h129 => ?_) (fun h129 => ?_)
                  · skip
                    refine pw_const r_12_person_147 ?_
                    refine pw_iret r_12_person_149 rfl (Nat.le_refl _) ⟨rfl, ?_⟩
                    first | exact h1 (by omega) | exact h2 (by omega) (by omega) | exact h3 (by omega) (by omega) (by omega) | exact h4 (by omega) (by omega) (by omega) (by omega) hlt
                  · skip
                    have hcw := cnt_le (fun i => (gA G 206 0 (i)) = 1 ∧ (gA G 207 0 (i)) < 16) hsz.1
                    refine pw_aload r_12_person_132 rfl ?_
                    refine pw_getI r_12_person_133 fs_12_22 (by decide) ?_
                    refine pw_aload r_12_person_136 rfl ?_
                    refine pw_callV (av := []) (st := [vI (gF G 12 (0) 22)]) (ls0 := [some (vR 12 (0)), none, none]) r_12_person_137 rfl rfl rfl (Nat.le_refl _) ?_
                    refine sp_X12_onTheWay (by first | assumption | exact hsz | omega) ?_
                    refine pw_iadd r_12_person_140 (by omega) ?_
                    refine pw_const r_12_person_141 ?_
                    refine pw_icmp_ne r_12_person_144 (fun h144 => ?_) (fun h144 => ?_)
                    · skip
                      have hlt : (gF G 12 0 22) < 400 := by omega
                      refine pw_aload r_12_person_150 rfl ?_
                      refine pw_getI r_12_person_151 fs_12_17 (by decide) ?_
                      refine pw_top (b := z) (hz) ?_
                      refine pw_istore (ls' := [some (vR 12 (0)), some (vI (k)), some (vI (c)), some (vI (a)), some (vI (v)), some (vI (g)), some (vI (t)), some (vI (z))]) r_12_person_154 rfl rfl ?_
                      refine pw_aload r_12_person_156 rfl ?_
                      refine pw_getR r_12_person_157 fs_12_6 (by decide) ?_
                      refine pw_iload r_12_person_160 rfl ?_
                      refine pw_iload r_12_person_162 rfl ?_
                      refine pw_iast r_12_person_163 sh204 (by omega) (by omega) ?_
                      refine pw_aload r_12_person_164 rfl ?_
                      refine pw_getR r_12_person_165 fs_12_7 (by decide) ?_
                      refine pw_iload r_12_person_168 rfl ?_
                      refine pw_aload r_12_person_170 rfl ?_
                      refine pw_getR r_12_person_171 fs_12_1 (by decide) ?_
                      refine pw_iload r_12_person_174 rfl ?_
                      refine pw_ialdv (v := gA G 200 (0) (c)) r_12_person_175 sh200 (by omega) (by omega) (by first | rfl | simp [gF_sF, gF_sA, gF_uA, gF_sD, gA_sF, gA_sA, gA_uA, gA_sD, gD_sF, gD_sA, gD_uA, gD_sD]) ?_
                      refine pw_iast r_12_person_176 sh205 (by omega) (by omega) ?_
                      refine pw_aload r_12_person_177 rfl ?_
                      refine pw_getR r_12_person_178 fs_12_10 (by decide) ?_
                      refine pw_iload r_12_person_181 rfl ?_
                      refine pw_iload r_12_person_183 rfl ?_
                      refine pw_iast r_12_person_184 sh208 (by omega) (by omega) ?_
                      refine pw_aload r_12_person_185 rfl ?_
                      refine pw_getR r_12_person_186 fs_12_11 (by decide) ?_
                      refine pw_iload r_12_person_189 rfl ?_
                      refine pw_iload r_12_person_191 rfl ?_
                      refine pw_iast r_12_person_193 sh209 (by omega) (by omega) ?_
                      refine pw_aload r_12_person_194 rfl ?_
                      refine pw_getR r_12_person_195 fs_12_12 (by decide) ?_
                      refine pw_iload r_12_person_198 rfl ?_
                      refine pw_iload r_12_person_200 rfl ?_
                      refine pw_iast r_12_person_202 sh210 (by omega) (by omega) ?_
                      refine pw_aload r_12_person_203 rfl ?_
                      refine pw_getR r_12_person_204 fs_12_13 (by decide) ?_
                      refine pw_iload r_12_person_207 rfl ?_
                      refine pw_aload r_12_person_209 rfl ?_
                      refine pw_getIv (v := gF G 12 (0) 0) r_12_person_210 fs_12_0 (by decide) (by first | rfl | simp [gF_sF, gF_sA, gF_uA, gF_sD, gA_sF, gA_sA, gA_uA, gA_sD, gD_sF, gD_sA, gD_uA, gD_sD]) ?_
                      refine pw_iast r_12_person_213 sh211 (by omega) (by omega) ?_
                      refine pw_aload r_12_person_214 rfl ?_
                      refine pw_getR r_12_person_215 fs_12_14 (by decide) ?_
                      refine pw_iload r_12_person_218 rfl ?_
                      refine pw_aload r_12_person_220 rfl ?_
                      refine pw_getIv (v := gF G 12 (0) 0) r_12_person_221 fs_12_0 (by decide) (by first | rfl | simp [gF_sF, gF_sA, gF_uA, gF_sD, gA_sF, gA_sA, gA_uA, gA_sD, gD_sF, gD_sA, gD_uA, gD_sD]) ?_
                      refine pw_iast r_12_person_224 sh212 (by omega) (by omega) ?_
                      refine pw_aload r_12_person_225 rfl ?_
                      refine pw_dup r_12_person_226 rfl ?_
                      refine pw_getIv (v := gF G 12 (0) 17) r_12_person_227 fs_12_17 (by decide) (by first | rfl | simp [gF_sF, gF_sA, gF_uA, gF_sD, gA_sF, gA_sA, gA_uA, gA_sD, gD_sF, gD_sA, gD_uA, gD_sD]) ?_
                      refine pw_top (b := z) (hz) ?_
                      refine pw_const r_12_person_230 ?_
                      refine pw_iadd r_12_person_231 (by omega) ?_
                      refine pw_putI r_12_person_232 (by decide +kernel) fs_12_17 (by decide) ?_
                      refine pw_aload r_12_person_235 rfl ?_
                      refine pw_iload r_12_person_236 rfl ?_
                      refine pw_iload r_12_person_238 rfl ?_
                      refine pw_callV (av := [vI (z), vI (c)]) (st := []) (ls0 := [some (vR 12 (0)), some (vI (z)), some (vI (c))]) r_12_person_239 rfl rfl rfl (Nat.le_refl _) ?_
                      refine sp_X12_enters (⟨by omega, by omega⟩) (⟨hst.1, hlt⟩) ?_
                      refine pw_eqG (G' := sF (sA (sA (sA (sA (sA (sA (sA (sA (sF (sA (sA (sA (sA (sA (sA (sA G 204 (0) (z) (k)) 205 (0) (z) (gA G 200 (0) (c))) 208 (0) (z) (a)) 209 (0) (z) (v)) 210 (0) (z) (g)) 211 (0) (z) (gF G 12 (0) 0)) 212 (0) (z) (gF G 12 (0) 0)) 12 (0) 17 ((z + 1))) 206 (0) (z) (0)) 207 (0) (z) (c)) 213 (0) (z) ((gF G 12 (0) 0))) 214 (0) (z) (-1)) 215 (0) ((gF G 12 (0) 22)) (z)) 216 (0) ((gF G 12 (0) 22)) (c)) 217 (0) ((gF G 12 (0) 22)) ((gF G 12 (0) 0))) 218 (0) ((gF G 12 (0) 22)) (-1)) 12 (0) 22 ((gF G 12 (0) 22) + 1)) (by first | rfl | simp (disch := decide) [gF_sF, gF_sA, gF_uA, gF_sD, gA_sF, gA_sA, gA_uA, gA_sD, gD_sF, gD_sA, gD_uA, gD_sD]) ?_
                      refine pw_iload r_12_person_242 rfl ?_
                      refine pw_iret r_12_person_244 rfl (Nat.le_refl _) ⟨rfl, ?_⟩
                      first | exact h1 (by omega) | exact h2 (by omega) (by omega) | exact h3 (by omega) (by omega) (by omega) | exact h4 (by omega) (by omega) (by omega) (by omega) hlt
                    · skip
                      refine pw_const r_12_person_147 ?_
                      refine pw_iret r_12_person_149 rfl (Nat.le_refl _) ⟨rfl, ?_⟩
                      first | exact h1 (by omega) | exact h2 (by omega) (by omega) | exact h3 (by omega) (by omega) (by omega) | exact h4 (by omega) (by omega) (by omega) (by omega) hlt
                · skip
                  refine pw_const r_12_person_119 ?_
                  refine pw_iret r_12_person_121 rfl (Nat.le_refl _) ⟨rfl, ?_⟩
                  first | exact h1 (by omega) | exact h2 (by omega) (by omega) | exact h3 (by omega) (by omega) (by omega) | exact h4 (by omega) (by omega) (by omega) (by omega) hlt
              · skip
                refine pw_const r_12_person_103 ?_
                refine pw_iret r_12_person_104 rfl (Nat.le_refl _) ⟨rfl, ?_⟩
                first | exact h1 (by omega) | exact h2 (by omega) (by omega) | exact h3 (by omega) (by omega) (by omega) | exact h4 (by omega) (by omega) (by omega) (by omega) hlt
            · skip
              refine pw_iload r_12_person_84 rfl ?_
              refine pw_const r_12_person_86 ?_
              refine pw_const r_12_person_87 ?_
              refine pw_callS (av := [vI (g), vI (1), vI (9)]) (st := []) (ls0 := [some (vI (g)), some (vI (1)), some (vI (9))]) r_12_person_89 rfl rfl rfl (Nat.le_refl _) ?_
              refine sp_X12_within  ?_
              refine pw_if_eqB r_12_person_92 (fun h92 => ?_) (fun h92 => ?_)
              · skip
                refine pw_const r_12_person_103 ?_
                refine pw_iret r_12_person_104 rfl (Nat.le_refl _) ⟨rfl, ?_⟩
                first | exact h1 (by omega) | exact h2 (by omega) (by omega) | exact h3 (by omega) (by omega) (by omega) | exact h4 (by omega) (by omega) (by omega) (by omega) hlt
              · skip
                refine pw_goto r_12_person_95 ?_
                refine pw_aload r_12_person_105 rfl ?_
                refine pw_iload r_12_person_106 rfl ?_
                refine pw_callV (av := [vI (c)]) (st := []) (ls0 := [some (vR 12 (0)), some (vI (c)), none, none]) r_12_person_107 rfl rfl rfl (Nat.le_refl _) ?_
                refine sp_X12_inBeds (by first | assumption | exact hsz | omega) ?_
                refine pw_aload r_12_person_110 rfl ?_
                refine pw_getR r_12_person_111 fs_12_2 (by decide) ?_
                refine pw_iload r_12_person_114 rfl ?_
                refine pw_iald r_12_person_115 sh201 (by omega) (by omega) ?_
                refine pw_icmp_lt r_12_person_116 (fun h116 => ?_) (fun h116 => ?_)
                · skip
                  refine pw_aload r_12_person_122 rfl ?_
                  refine pw_getI r_12_person_123 fs_12_17 (by decide) ?_
                  refine pw_const r_12_person_126 ?_
                  refine pw_icmp_eq r_12_person_129 (fun h129 => ?_) (fun h129 => ?_)
                  · skip
                    refine pw_const r_12_person_147 ?_
                    refine pw_iret r_12_person_149 rfl (Nat.le_refl _) ⟨rfl, ?_⟩
                    first | exact h1 (by omega) | exact h2 (by omega) (by omega) | exact h3 (by omega) (by omega) (by omega) | exact h4 (by omega) (by omega) (by omega) (by omega) hlt
                  · skip
                    have hcw := cnt_le (fun i => (gA G 206 0 (i)) = 1 ∧ (gA G 207 0 (i)) < 16) hsz.1
                    refine pw_aload r_12_person_132 rfl ?_
                    refine pw_getI r_12_person_133 fs_12_22 (by decide) ?_
                    refine pw_aload r_12_person_136 rfl ?_
                    refine pw_callV (av := []) (st := [vI (gF G 12 (0) 22)]) (ls0 := [some (vR 12 (0)), none, none]) r_12_person_137 rfl rfl rfl (Nat.le_refl _) ?_
                    refine sp_X12_onTheWay (by first | assumption | exact hsz | omega) ?_
                    refine pw_iadd r_12_person_140 (by omega) ?_
                    refine pw_const r_12_person_141 ?_
                    refine pw_icmp_ne r_12_person_144 (fun h144 => ?_) (fun h144 => ?_)
                    · skip
                      have hlt : (gF G 12 0 22) < 400 := by omega
                      refine pw_aload r_12_person_150 rfl ?_
                      refine pw_getI r_12_person_151 fs_12_17 (by decide) ?_
                      refine pw_top (b := z) (hz) ?_
                      refine pw_istore (ls' := [some (vR 12 (0)), some (vI (k)), some (vI (c)), some (vI (a)), some (vI (v)), some (vI (g)), some (vI (t)), some (vI (z))]) r_12_person_154 rfl rfl ?_
                      refine pw_aload r_12_person_156 rfl ?_
                      refine pw_getR r_12_person_157 fs_12_6 (by decide) ?_
                      refine pw_iload r_12_person_160 rfl ?_
                      refine pw_iload r_12_person_162 rfl ?_
                      refine pw_iast r_12_person_163 sh204 (by omega) (by omega) ?_
                      refine pw_aload r_12_person_164 rfl ?_
                      refine pw_getR r_12_person_165 fs_12_7 (by decide) ?_
                      refine pw_iload r_12_person_168 rfl ?_
                      refine pw_aload r_12_person_170 rfl ?_
                      refine pw_getR r_12_person_171 fs_12_1 (by decide) ?_
                      refine pw_iload r_12_person_174 rfl ?_
                      refine pw_ialdv (v := gA G 200 (0) (c)) r_12_person_175 sh200 (by omega) (by omega) (by first | rfl | simp [gF_sF, gF_sA, gF_uA, gF_sD, gA_sF, gA_sA, gA_uA, gA_sD, gD_sF, gD_sA, gD_uA, gD_sD]) ?_
                      refine pw_iast r_12_person_176 sh205 (by omega) (by omega) ?_
                      refine pw_aload r_12_person_177 rfl ?_
                      refine pw_getR r_12_person_178 fs_12_10 (by decide) ?_
                      refine pw_iload r_12_person_181 rfl ?_
                      refine pw_iload r_12_person_183 rfl ?_
                      refine pw_iast r_12_person_184 sh208 (by omega) (by omega) ?_
                      refine pw_aload r_12_person_185 rfl ?_
                      refine pw_getR r_12_person_186 fs_12_11 (by decide) ?_
                      refine pw_iload r_12_person_189 rfl ?_
                      refine pw_iload r_12_person_191 rfl ?_
                      refine pw_iast r_12_person_193 sh209 (by omega) (by omega) ?_
                      refine pw_aload r_12_person_194 rfl ?_
                      refine pw_getR r_12_person_195 fs_12_12 (by decide) ?_
                      refine pw_iload r_12_person_198 rfl ?_
                      refine pw_iload r_12_person_200 rfl ?_
                      refine pw_iast r_12_person_202 sh210 (by omega) (by omega) ?_
                      refine pw_aload r_12_person_203 rfl ?_
                      refine pw_getR r_12_person_204 fs_12_13 (by decide) ?_
                      refine pw_iload r_12_person_207 rfl ?_
                      refine pw_aload r_12_person_209 rfl ?_
                      refine pw_getIv (v := gF G 12 (0) 0) r_12_person_210 fs_12_0 (by decide) (by first | rfl | simp [gF_sF, gF_sA, gF_uA, gF_sD, gA_sF, gA_sA, gA_uA, gA_sD, gD_sF, gD_sA, gD_uA, gD_sD]) ?_
                      refine pw_iast r_12_person_213 sh211 (by omega) (by omega) ?_
                      refine pw_aload r_12_person_214 rfl ?_
                      refine pw_getR r_12_person_215 fs_12_14 (by decide) ?_
                      refine pw_iload r_12_person_218 rfl ?_
                      refine pw_aload r_12_person_220 rfl ?_
                      refine pw_getIv (v := gF G 12 (0) 0) r_12_person_221 fs_12_0 (by decide) (by first | rfl | simp [gF_sF, gF_sA, gF_uA, gF_sD, gA_sF, gA_sA, gA_uA, gA_sD, gD_sF, gD_sA, gD_uA, gD_sD]) ?_
                      refine pw_iast r_12_person_224 sh212 (by omega) (by omega) ?_
                      refine pw_aload r_12_person_225 rfl ?_
                      refine pw_dup r_12_person_226 rfl ?_
                      refine pw_getIv (v := gF G 12 (0) 17) r_12_person_227 fs_12_17 (by decide) (by first | rfl | simp [gF_sF, gF_sA, gF_uA, gF_sD, gA_sF, gA_sA, gA_uA, gA_sD, gD_sF, gD_sA, gD_uA, gD_sD]) ?_
                      refine pw_top (b := z) (hz) ?_
                      refine pw_const r_12_person_230 ?_
                      refine pw_iadd r_12_person_231 (by omega) ?_
                      refine pw_putI r_12_person_232 (by decide +kernel) fs_12_17 (by decide) ?_
                      refine pw_aload r_12_person_235 rfl ?_
                      refine pw_iload r_12_person_236 rfl ?_
                      refine pw_iload r_12_person_238 rfl ?_
                      refine pw_callV (av := [vI (z), vI (c)]) (st := []) (ls0 := [some (vR 12 (0)), some (vI (z)), some (vI (c))]) r_12_person_239 rfl rfl rfl (Nat.le_refl _) ?_
                      refine sp_X12_enters (⟨by omega, by omega⟩) (⟨hst.1, hlt⟩) ?_
                      refine pw_eqG (G' := sF (sA (sA (sA (sA (sA (sA (sA (sA (sF (sA (sA (sA (sA (sA (sA (sA G 204 (0) (z) (k)) 205 (0) (z) (gA G 200 (0) (c))) 208 (0) (z) (a)) 209 (0) (z) (v)) 210 (0) (z) (g)) 211 (0) (z) (gF G 12 (0) 0)) 212 (0) (z) (gF G 12 (0) 0)) 12 (0) 17 ((z + 1))) 206 (0) (z) (0)) 207 (0) (z) (c)) 213 (0) (z) ((gF G 12 (0) 0))) 214 (0) (z) (-1)) 215 (0) ((gF G 12 (0) 22)) (z)) 216 (0) ((gF G 12 (0) 22)) (c)) 217 (0) ((gF G 12 (0) 22)) ((gF G 12 (0) 0))) 218 (0) ((gF G 12 (0) 22)) (-1)) 12 (0) 22 ((gF G 12 (0) 22) + 1)) (by first | rfl | simp (disch := decide) [gF_sF, gF_sA, gF_uA, gF_sD, gA_sF, gA_sA, gA_uA, gA_sD, gD_sF, gD_sA, gD_uA, gD_sD]) ?_
                      refine pw_iload r_12_person_242 rfl ?_
                      refine pw_iret r_12_person_244 rfl (Nat.le_refl _) ⟨rfl, ?_⟩
                      first | exact h1 (by omega) | exact h2 (by omega) (by omega) | exact h3 (by omega) (by omega) (by omega) | exact h4 (by omega) (by omega) (by omega) (by omega) hlt
                    · skip
                      refine pw_const r_12_person_147 ?_
                      refine pw_iret r_12_person_149 rfl (Nat.le_refl _) ⟨rfl, ?_⟩
                      first | exact h1 (by omega) | exact h2 (by omega) (by omega) | exact h3 (by omega) (by omega) (by omega) | exact h4 (by omega) (by omega) (by omega) (by omega) hlt
                · skip
                  refine pw_const r_12_person_119 ?_
                  refine pw_iret r_12_person_121 rfl (Nat.le_refl _) ⟨rfl, ?_⟩
                  first | exact h1 (by omega) | exact h2 (by omega) (by omega) | exact h3 (by omega) (by omega) (by omega) | exact h4 (by omega) (by omega) (by omega) (by omega) hlt
        refine pw_iload r_12_person_30 rfl ?_
        refine pw_const r_12_person_32 ?_
        refine pw_icmp_eq r_12_person_33 (fun h33 => ?_) (fun h33 => ?_)
        · skip
          refine pw_const r_12_person_67 ?_
          refine pw_goto r_12_person_68 ?_
          exact L72 (1) (by first | assumption | omega) 
        · skip
          refine pw_iload r_12_person_36 rfl ?_
          refine pw_const r_12_person_37 ?_
          refine pw_icmp_ne r_12_person_39 (fun h39 => ?_) (fun h39 => ?_)
          · skip
            refine pw_const r_12_person_71 ?_
            exact L72 (0) (by first | assumption | omega) 
          · skip
            refine pw_aload r_12_person_42 rfl ?_
            refine pw_iload r_12_person_43 rfl ?_
            refine pw_callV (av := [vI (v)]) (st := []) (ls0 := [some (vR 12 (0)), some (vI (v))]) r_12_person_45 rfl rfl rfl (Nat.le_refl _) ?_
            refine sp_X12_isPerson  ?_
            refine pw_if_eqB r_12_person_48 (fun h48 => ?_) (fun h48 => ?_)
            · skip
              refine pw_const r_12_person_71 ?_
              exact L72 (0) (by first | assumption | omega) 
            · skip
              refine pw_aload r_12_person_51 rfl ?_
              refine pw_getR r_12_person_52 fs_12_7 (by decide) ?_
              refine pw_iload r_12_person_55 rfl ?_
              refine pw_iald r_12_person_57 sh205 (by omega) (by omega) ?_
              refine pw_aload r_12_person_58 rfl ?_
              refine pw_getR r_12_person_59 fs_12_1 (by decide) ?_
              refine pw_iload r_12_person_62 rfl ?_
              refine pw_iald r_12_person_63 sh200 (by omega) (by omega) ?_
              refine pw_icmp_ne r_12_person_64 (fun h64 => ?_) (fun h64 => ?_)
              · skip
                refine pw_const r_12_person_71 ?_
                exact L72 (0) (by first | assumption | omega) 
              · skip
                refine pw_const r_12_person_67 ?_
                refine pw_goto r_12_person_68 ?_
                exact L72 (1) (by first | assumption | omega) 
      · skip
        refine pw_const r_12_person_28 ?_
        refine pw_iret r_12_person_29 rfl (Nat.le_refl _) ⟨rfl, ?_⟩
        first | exact h1 (by omega) | exact h2 (by omega) (by omega) | exact h3 (by omega) (by omega) (by omega) | exact h4 (by omega) (by omega) (by omega) (by omega) hlt
