/-- an array filled where q is so, up to place n -/
noncomputable def filF (q : Int → Prop) (v f : Int → Int) (n : Int) : Int → Int := fun i => @ite Int (0 ≤ i ∧ i < n ∧ q i) (Classical.propDecidable _) (v i) (f i)
theorem fil_0 (q : Int → Prop) (v f : Int → Int) : filF q v f 0 = f := funext fun i => if_neg (by omega)
theorem fil_at {q : Int → Prop} {v f : Int → Int} {n : Int} : filF q v f n n = f n := if_neg (by omega)
theorem fil_t {q : Int → Prop} {v f : Int → Int} {n i : Int} (h0 : 0 ≤ i) (h1 : i < n) (h : q i) : filF q v f n i = v i := if_pos ⟨h0, h1, h⟩
theorem fil_f {q : Int → Prop} {v f : Int → Int} {n i : Int} (h : ¬ (0 ≤ i ∧ i < n ∧ q i)) : filF q v f n i = f i := if_neg h
theorem fil_s {q : Int → Prop} {v f : Int → Int} {n z : Int} (h0 : 0 ≤ n) (h : q n) (hz : z = v n) : upA (filF q v f n) n z = filF q v f (n + 1) := by
  subst hz
  funext i
  unfold upA filF
  by_cases e : i = n
  · rw [if_pos e, if_pos (by rw [e]; exact ⟨h0, by omega, h⟩), e]
  · rw [if_neg e]
    by_cases c : 0 ≤ i ∧ i < n ∧ q i
    · rw [if_pos c, if_pos ⟨c.1, by omega, c.2.2⟩]
    · rw [if_neg c, if_neg (fun z => c ⟨z.1, by omega, z.2.2⟩)]
theorem fil_k {q : Int → Prop} {v f : Int → Int} {n : Int} (h : ¬ q n) : filF q v f n = filF q v f (n + 1) := by
  funext i
  unfold filF
  by_cases c : 0 ≤ i ∧ i < n ∧ q i
  · rw [if_pos c, if_pos ⟨c.1, by omega, c.2.2⟩]
  · rw [if_neg c, if_neg]
    rintro ⟨c1, c2, c3⟩
    by_cases e : i = n
    · rw [e] at c3; exact h c3
    · exact c ⟨c1, by omega, c3⟩

theorem wd_f3_39 : Cond.fieldLink "NameRolls$Person" 39 "NameRolls$Person" "state" "I" ∈ UW := UW3_at 174 (by decide +kernel) rfl
theorem wd_f3_42 : Cond.fieldLink "NameRolls$Person" 42 "NameRolls$Person" "place" "I" ∈ UW := UW3_at 181 (by decide +kernel) rfl
theorem wd_f3_33 : Cond.fieldLink "NameRolls$Person" 33 "NameRolls$Person" "stateDay" "I" ∈ UW := UW3_at 179 (by decide +kernel) rfl
theorem wd_f3_36 : Cond.fieldLink "NameRolls$Person" 36 "NameRolls$Person" "there" "I" ∈ UW := UW3_at 184 (by decide +kernel) rfl
theorem wd_f1_52 : Cond.fieldLink "NameRolls$Crowd" 52 "NameRolls$Crowd" "size" "I" ∈ UW := UW1_at 69 (by decide +kernel) rfl
theorem wd_f1_13 : Cond.fieldLink "NameRolls$Crowd" 13 "NameRolls$Crowd" "people" "[LNameRolls$Person;" ∈ UW := UW1_at 68 (by decide +kernel) rfl
theorem wd_f1_17 : Cond.fieldLink "NameRolls$Crowd" 17 "NameRolls$Crowd" "rises" "[I" ∈ UW := UW1_at 80 (by decide +kernel) rfl
theorem wd_f12_19 : Cond.fieldLink "NameRollsModel" 19 "NameRollsModel" "rise" "[I" ∈ UW := UW7_at 73 (by decide +kernel) rfl
theorem wd_f1_70 : Cond.fieldLink "NameRolls$Crowd" 70 "NameRolls$Person" "state" "I" ∈ UW := UW3_at 177 (by decide +kernel) rfl
theorem wd_m1_168 : Cond.methodLink "NameRolls$Crowd" 168 M_X3_isIn.1 ∈ UW := UW5_at 32 (by decide +kernel) rfl
theorem wd_s3_isIn : Cond.selects M_X3_isIn.1.cls M_X3_isIn.1 M_X3_isIn.1 ∈ UW := UW5_at 34 (by decide +kernel) rfl
theorem wd_f1_149 : Cond.fieldLink "NameRolls$Crowd" 149 "NameRolls$Person" "kind" "I" ∈ UW := UW3_at 153 (by decide +kernel) rfl
theorem wd_f1_88 : Cond.fieldLink "NameRolls$Crowd" 88 "NameRolls$Person" "grade" "I" ∈ UW := UW3_at 169 (by decide +kernel) rfl
theorem wd_f1_129 : Cond.fieldLink "NameRolls$Crowd" 129 "NameRolls$Person" "side" "I" ∈ UW := UW3_at 157 (by decide +kernel) rfl
theorem wd_f1_161 : Cond.fieldLink "NameRolls$Crowd" 161 "NameRolls$Person" "stateDay" "I" ∈ UW := UW3_at 180 (by decide +kernel) rfl
theorem wd_f1_135 : Cond.fieldLink "NameRolls$Crowd" 135 "NameRolls$Crowd" "stays" "I" ∈ UW := UW1_at 77 (by decide +kernel) rfl
theorem wd_f1_21 : Cond.fieldLink "NameRolls$Crowd" 21 "NameRolls$Crowd" "stayOwner" "[I" ∈ UW := UW1_at 81 (by decide +kernel) rfl
theorem wd_f12_265 : Cond.fieldLink "NameRollsModel" 265 "NameRollsModel" "stays" "I" ∈ UW := UW7_at 90 (by decide +kernel) rfl
theorem wd_f12_55 : Cond.fieldLink "NameRollsModel" 55 "NameRollsModel" "stayOf" "[I" ∈ UW := UW7_at 86 (by decide +kernel) rfl
theorem wd_f12_28 : Cond.fieldLink "NameRollsModel" 28 "NameRollsModel" "state" "[I" ∈ UW := UW7_at 76 (by decide +kernel) rfl
theorem wd_f12_31 : Cond.fieldLink "NameRollsModel" 31 "NameRollsModel" "place" "[I" ∈ UW := UW7_at 77 (by decide +kernel) rfl
theorem wd_f12_49 : Cond.fieldLink "NameRollsModel" 49 "NameRollsModel" "since" "[I" ∈ UW := UW7_at 83 (by decide +kernel) rfl
theorem wd_f12_88 : Cond.fieldLink "NameRollsModel" 88 "NameRollsModel" "promiseFrom" "[I" ∈ UW := UW7_at 100 (by decide +kernel) rfl
theorem wd_f12_91 : Cond.fieldLink "NameRollsModel" 91 "NameRollsModel" "promiseTo" "[I" ∈ UW := UW7_at 101 (by decide +kernel) rfl
theorem wd_f12_25 : Cond.fieldLink "NameRollsModel" 25 "NameRollsModel" "holder" "[I" ∈ UW := UW7_at 75 (by decide +kernel) rfl
theorem wd_f12_82 : Cond.fieldLink "NameRollsModel" 82 "NameRollsModel" "promiseSide" "[I" ∈ UW := UW7_at 98 (by decide +kernel) rfl
theorem r_3_enter_0 : RA M_X3_enter 0 0 1 := Or.inl ⟨0, by decide +kernel, rfl, rfl⟩
theorem r_3_enter_1 : RL M_X3_enter 1 1 2 := Or.inl ⟨1, by decide +kernel, rfl, rfl⟩
theorem r_3_enter_2 : RP M_X3_enter 2 3 8 5 := ⟨39, _, by decide +kernel, rfl, by decide, wd_f3_39, rfl, Or.inl rfl, rfl⟩
theorem r_3_enter_5 : RA M_X3_enter 5 0 6 := Or.inl ⟨0, by decide +kernel, rfl, rfl⟩
theorem r_3_enter_6 : RL M_X3_enter 6 2 7 := Or.inl ⟨2, by decide +kernel, rfl, rfl⟩
theorem r_3_enter_7 : RP M_X3_enter 7 3 10 10 := ⟨42, _, by decide +kernel, rfl, by decide, wd_f3_42, rfl, Or.inl rfl, rfl⟩
theorem r_3_enter_10 : RA M_X3_enter 10 0 11 := Or.inl ⟨0, by decide +kernel, rfl, rfl⟩
theorem r_3_enter_11 : RL M_X3_enter 11 3 12 := Or.inl ⟨3, by decide +kernel, rfl, rfl⟩
theorem r_3_enter_12 : RP M_X3_enter 12 3 9 15 := ⟨33, _, by decide +kernel, rfl, by decide, wd_f3_33, rfl, Or.inl rfl, rfl⟩
theorem r_3_enter_15 : RA M_X3_enter 15 0 16 := Or.inl ⟨0, by decide +kernel, rfl, rfl⟩
theorem r_3_enter_16 : RC M_X3_enter 16 (-1) 17 := ⟨⟨by decide, by decide⟩, Or.inl ⟨by decide +kernel, rfl⟩⟩
theorem r_3_enter_17 : RP M_X3_enter 17 3 11 20 := ⟨36, _, by decide +kernel, rfl, by decide, wd_f3_36, rfl, Or.inl rfl, rfl⟩
theorem r_3_enter_20 : RW M_X3_enter 20 .return_ 21 1 := ⟨by decide +kernel, rfl⟩
theorem r_3_isIn_0 : RA M_X3_isIn 0 0 1 := Or.inl ⟨0, by decide +kernel, rfl, rfl⟩
theorem r_3_isIn_1 : RG M_X3_isIn 1 3 8 4 := ⟨39, _, by decide +kernel, rfl, by decide, wd_f3_39, rfl, rfl⟩
theorem r_3_isIn_4 : RB M_X3_isIn 4 (.ifCond .ne) 19 7 := ⟨15, by decide +kernel, rfl, rfl⟩
theorem r_3_isIn_19 : RC M_X3_isIn 19 0 20 := ⟨⟨by decide, by decide⟩, Or.inl ⟨by decide +kernel, rfl⟩⟩
theorem r_3_isIn_20 : RW M_X3_isIn 20 .ireturn 21 1 := ⟨by decide +kernel, rfl⟩
theorem r_3_isIn_7 : RA M_X3_isIn 7 0 8 := Or.inl ⟨0, by decide +kernel, rfl, rfl⟩
theorem r_3_isIn_8 : RG M_X3_isIn 8 3 10 11 := ⟨42, _, by decide +kernel, rfl, by decide, wd_f3_42, rfl, rfl⟩
theorem r_3_isIn_11 : RL M_X3_isIn 11 1 12 := Or.inl ⟨1, by decide +kernel, rfl, rfl⟩
theorem r_3_isIn_12 : RB M_X3_isIn 12 (.if_icmp .ne) 19 15 := ⟨7, by decide +kernel, rfl, rfl⟩
theorem r_3_isIn_15 : RC M_X3_isIn 15 1 16 := ⟨⟨by decide, by decide⟩, Or.inl ⟨by decide +kernel, rfl⟩⟩
theorem r_3_isIn_16 : RB M_X3_isIn 16 .goto 20 19 := ⟨4, by decide +kernel, rfl, rfl⟩
theorem r_1_get_0 : RL M_X1_get 0 1 1 := Or.inl ⟨1, by decide +kernel, rfl, rfl⟩
theorem r_1_get_1 : RB M_X1_get 1 (.ifCond .lt) 28 4 := ⟨27, by decide +kernel, rfl, rfl⟩
theorem r_1_get_28 : RW M_X1_get 28 .aconst_null 29 1 := ⟨by decide +kernel, rfl⟩
theorem r_1_get_29 : RW M_X1_get 29 .areturn 30 1 := ⟨by decide +kernel, rfl⟩
theorem r_1_get_4 : RL M_X1_get 4 1 5 := Or.inl ⟨1, by decide +kernel, rfl, rfl⟩
theorem r_1_get_5 : RA M_X1_get 5 0 6 := Or.inl ⟨0, by decide +kernel, rfl, rfl⟩
theorem r_1_get_6 : RG M_X1_get 6 1 1 9 := ⟨52, _, by decide +kernel, rfl, by decide, wd_f1_52, rfl, rfl⟩
theorem r_1_get_9 : RB M_X1_get 9 (.if_icmp .ge) 28 12 := ⟨19, by decide +kernel, rfl, rfl⟩
theorem r_1_get_12 : RL M_X1_get 12 1 13 := Or.inl ⟨1, by decide +kernel, rfl, rfl⟩
theorem r_1_get_13 : RC M_X1_get 13 150 16 := ⟨⟨by decide, by decide⟩, Or.inr (Or.inr (Or.inl ⟨by decide +kernel, by decide, rfl⟩))⟩
theorem r_1_get_16 : RB M_X1_get 16 (.if_icmp .ge) 28 19 := ⟨12, by decide +kernel, rfl, rfl⟩
theorem r_1_get_19 : RA M_X1_get 19 0 20 := Or.inl ⟨0, by decide +kernel, rfl, rfl⟩
theorem r_1_get_20 : RG M_X1_get 20 1 0 23 := ⟨13, _, by decide +kernel, rfl, by decide, wd_f1_13, rfl, rfl⟩
theorem r_1_get_23 : RL M_X1_get 23 1 24 := Or.inl ⟨1, by decide +kernel, rfl, rfl⟩
theorem r_1_get_24 : RW M_X1_get 24 .aaload 25 1 := ⟨by decide +kernel, rfl⟩
theorem r_1_get_25 : RB M_X1_get 25 .goto 29 28 := ⟨4, by decide +kernel, rfl, rfl⟩
theorem r_1_setRise_0 : RL M_X1_setRise 0 1 1 := Or.inl ⟨1, by decide +kernel, rfl, rfl⟩
theorem r_1_setRise_1 : RC M_X1_setRise 1 1 2 := ⟨⟨by decide, by decide⟩, Or.inl ⟨by decide +kernel, rfl⟩⟩
theorem r_1_setRise_2 : RC M_X1_setRise 2 9 4 := ⟨⟨by decide, by decide⟩, Or.inr (Or.inl ⟨by decide +kernel, by decide, rfl⟩)⟩
theorem r_1_setRise_4 : RKs M_X1_setRise M_X11_within 4 3 7 := ⟨56, by decide +kernel, Or.inr (by decide +kernel), ok_M_X11_within, rfl⟩
theorem r_1_setRise_7 : RB M_X1_setRise 7 (.ifCond .eq) 20 10 := ⟨13, by decide +kernel, rfl, rfl⟩
theorem r_1_setRise_20 : RC M_X1_setRise 20 (-1) 21 := ⟨⟨by decide, by decide⟩, Or.inl ⟨by decide +kernel, rfl⟩⟩
theorem r_1_setRise_21 : RW M_X1_setRise 21 .ireturn 22 1 := ⟨by decide +kernel, rfl⟩
theorem r_1_setRise_10 : RL M_X1_setRise 10 2 11 := Or.inl ⟨2, by decide +kernel, rfl, rfl⟩
theorem r_1_setRise_11 : RC M_X1_setRise 11 0 12 := ⟨⟨by decide, by decide⟩, Or.inl ⟨by decide +kernel, rfl⟩⟩
theorem r_1_setRise_12 : RC M_X1_setRise 12 99 14 := ⟨⟨by decide, by decide⟩, Or.inr (Or.inl ⟨by decide +kernel, by decide, rfl⟩)⟩
theorem r_1_setRise_14 : RKs M_X1_setRise M_X11_within 14 3 17 := ⟨56, by decide +kernel, Or.inr (by decide +kernel), ok_M_X11_within, rfl⟩
theorem r_1_setRise_17 : RB M_X1_setRise 17 (.ifCond .ne) 22 20 := ⟨5, by decide +kernel, rfl, rfl⟩
theorem r_1_setRise_22 : RA M_X1_setRise 22 0 23 := Or.inl ⟨0, by decide +kernel, rfl, rfl⟩
theorem r_1_setRise_23 : RG M_X1_setRise 23 1 5 26 := ⟨17, _, by decide +kernel, rfl, by decide, wd_f1_17, rfl, rfl⟩
theorem r_1_setRise_26 : RL M_X1_setRise 26 1 27 := Or.inl ⟨1, by decide +kernel, rfl, rfl⟩
theorem r_1_setRise_27 : RW M_X1_setRise 27 .iaload 28 1 := ⟨by decide +kernel, rfl⟩
theorem r_1_setRise_28 : RS M_X1_setRise 28 3 29 := ⟨by decide, Or.inl ⟨3, by decide +kernel, rfl, rfl⟩⟩
theorem r_1_setRise_29 : RA M_X1_setRise 29 0 30 := Or.inl ⟨0, by decide +kernel, rfl, rfl⟩
theorem r_1_setRise_30 : RG M_X1_setRise 30 1 5 33 := ⟨17, _, by decide +kernel, rfl, by decide, wd_f1_17, rfl, rfl⟩
theorem r_1_setRise_33 : RL M_X1_setRise 33 1 34 := Or.inl ⟨1, by decide +kernel, rfl, rfl⟩
theorem r_1_setRise_34 : RL M_X1_setRise 34 2 35 := Or.inl ⟨2, by decide +kernel, rfl, rfl⟩
theorem r_1_setRise_35 : RW M_X1_setRise 35 .iastore 36 1 := ⟨by decide +kernel, rfl⟩
theorem r_1_setRise_36 : RL M_X1_setRise 36 3 37 := Or.inl ⟨3, by decide +kernel, rfl, rfl⟩
theorem r_1_setRise_37 : RW M_X1_setRise 37 .ireturn 38 1 := ⟨by decide +kernel, rfl⟩
theorem r_12_rise_0 : RL M_X12_rise 0 1 1 := Or.inl ⟨1, by decide +kernel, rfl, rfl⟩
theorem r_12_rise_1 : RC M_X12_rise 1 1 2 := ⟨⟨by decide, by decide⟩, Or.inl ⟨by decide +kernel, rfl⟩⟩
theorem r_12_rise_2 : RC M_X12_rise 2 9 4 := ⟨⟨by decide, by decide⟩, Or.inr (Or.inl ⟨by decide +kernel, by decide, rfl⟩)⟩
theorem r_12_rise_4 : RKs M_X12_rise M_X12_within 4 3 7 := ⟨240, by decide +kernel, Or.inl wd_m12_240, ok_M_X12_within, rfl⟩
theorem r_12_rise_7 : RB M_X12_rise 7 (.ifCond .eq) 20 10 := ⟨13, by decide +kernel, rfl, rfl⟩
theorem r_12_rise_20 : RC M_X12_rise 20 (-1) 21 := ⟨⟨by decide, by decide⟩, Or.inl ⟨by decide +kernel, rfl⟩⟩
theorem r_12_rise_21 : RW M_X12_rise 21 .ireturn 22 1 := ⟨by decide +kernel, rfl⟩
theorem r_12_rise_10 : RL M_X12_rise 10 2 11 := Or.inl ⟨2, by decide +kernel, rfl, rfl⟩
theorem r_12_rise_11 : RC M_X12_rise 11 0 12 := ⟨⟨by decide, by decide⟩, Or.inl ⟨by decide +kernel, rfl⟩⟩
theorem r_12_rise_12 : RC M_X12_rise 12 99 14 := ⟨⟨by decide, by decide⟩, Or.inr (Or.inl ⟨by decide +kernel, by decide, rfl⟩)⟩
theorem r_12_rise_14 : RKs M_X12_rise M_X12_within 14 3 17 := ⟨240, by decide +kernel, Or.inl wd_m12_240, ok_M_X12_within, rfl⟩
theorem r_12_rise_17 : RB M_X12_rise 17 (.ifCond .ne) 22 20 := ⟨5, by decide +kernel, rfl, rfl⟩
theorem r_12_rise_22 : RA M_X12_rise 22 0 23 := Or.inl ⟨0, by decide +kernel, rfl, rfl⟩
theorem r_12_rise_23 : RG M_X12_rise 23 12 5 26 := ⟨19, _, by decide +kernel, rfl, by decide, wd_f12_19, rfl, rfl⟩
theorem r_12_rise_26 : RL M_X12_rise 26 1 27 := Or.inl ⟨1, by decide +kernel, rfl, rfl⟩
theorem r_12_rise_27 : RW M_X12_rise 27 .iaload 28 1 := ⟨by decide +kernel, rfl⟩
theorem r_12_rise_28 : RS M_X12_rise 28 3 29 := ⟨by decide, Or.inl ⟨3, by decide +kernel, rfl, rfl⟩⟩
theorem r_12_rise_29 : RA M_X12_rise 29 0 30 := Or.inl ⟨0, by decide +kernel, rfl, rfl⟩
theorem r_12_rise_30 : RG M_X12_rise 30 12 5 33 := ⟨19, _, by decide +kernel, rfl, by decide, wd_f12_19, rfl, rfl⟩
theorem r_12_rise_33 : RL M_X12_rise 33 1 34 := Or.inl ⟨1, by decide +kernel, rfl, rfl⟩
theorem r_12_rise_34 : RL M_X12_rise 34 2 35 := Or.inl ⟨2, by decide +kernel, rfl, rfl⟩
theorem r_12_rise_35 : RW M_X12_rise 35 .iastore 36 1 := ⟨by decide +kernel, rfl⟩
theorem r_12_rise_36 : RL M_X12_rise 36 3 37 := Or.inl ⟨3, by decide +kernel, rfl, rfl⟩
theorem r_12_rise_37 : RW M_X12_rise 37 .ireturn 38 1 := ⟨by decide +kernel, rfl⟩
theorem r_1_countState_0 : RC M_X1_countState 0 0 1 := ⟨⟨by decide, by decide⟩, Or.inl ⟨by decide +kernel, rfl⟩⟩
theorem r_1_countState_1 : RS M_X1_countState 1 2 2 := ⟨by decide, Or.inl ⟨2, by decide +kernel, rfl, rfl⟩⟩
theorem r_1_countState_2 : RC M_X1_countState 2 0 3 := ⟨⟨by decide, by decide⟩, Or.inl ⟨by decide +kernel, rfl⟩⟩
theorem r_1_countState_3 : RS M_X1_countState 3 3 4 := ⟨by decide, Or.inl ⟨3, by decide +kernel, rfl, rfl⟩⟩
theorem r_1_countState_4 : RL M_X1_countState 4 3 5 := Or.inl ⟨3, by decide +kernel, rfl, rfl⟩
theorem r_1_countState_5 : RA M_X1_countState 5 0 6 := Or.inl ⟨0, by decide +kernel, rfl, rfl⟩
theorem r_1_countState_6 : RG M_X1_countState 6 1 1 9 := ⟨52, _, by decide +kernel, rfl, by decide, wd_f1_52, rfl, rfl⟩
theorem r_1_countState_9 : RB M_X1_countState 9 (.if_icmp .ge) 43 12 := ⟨34, by decide +kernel, rfl, rfl⟩
theorem r_1_countState_43 : RL M_X1_countState 43 2 44 := Or.inl ⟨2, by decide +kernel, rfl, rfl⟩
theorem r_1_countState_44 : RW M_X1_countState 44 .ireturn 45 1 := ⟨by decide +kernel, rfl⟩
theorem r_1_countState_12 : RA M_X1_countState 12 0 13 := Or.inl ⟨0, by decide +kernel, rfl, rfl⟩
theorem r_1_countState_13 : RG M_X1_countState 13 1 0 16 := ⟨13, _, by decide +kernel, rfl, by decide, wd_f1_13, rfl, rfl⟩
theorem r_1_countState_16 : RL M_X1_countState 16 3 17 := Or.inl ⟨3, by decide +kernel, rfl, rfl⟩
theorem r_1_countState_17 : RW M_X1_countState 17 .aaload 18 1 := ⟨by decide +kernel, rfl⟩
theorem r_1_countState_18 : RT M_X1_countState 18 4 20 := ⟨by decide, Or.inr ⟨by decide +kernel, rfl⟩⟩
theorem r_1_countState_20 : RA M_X1_countState 20 4 22 := Or.inr ⟨by decide +kernel, rfl⟩
theorem r_1_countState_22 : RB M_X1_countState 22 .ifnull 37 25 := ⟨15, by decide +kernel, rfl, rfl⟩
theorem r_1_countState_25 : RA M_X1_countState 25 4 27 := Or.inr ⟨by decide +kernel, rfl⟩
theorem r_1_countState_27 : RG M_X1_countState 27 3 8 30 := ⟨70, _, by decide +kernel, rfl, by decide, wd_f1_70, rfl, rfl⟩
theorem r_1_countState_30 : RL M_X1_countState 30 1 31 := Or.inl ⟨1, by decide +kernel, rfl, rfl⟩
theorem r_1_countState_31 : RB M_X1_countState 31 (.if_icmp .ne) 37 34 := ⟨6, by decide +kernel, rfl, rfl⟩
theorem r_1_countState_37 : RI M_X1_countState 37 3 1 40 := ⟨by decide, by decide +kernel, rfl⟩
theorem r_1_countState_40 : RB M_X1_countState 40 .goto 4 43 := ⟨(-36), by decide +kernel, rfl, rfl⟩
theorem r_1_countState_34 : RI M_X1_countState 34 2 1 37 := ⟨by decide, by decide +kernel, rfl⟩
theorem r_1_countIn_0 : RC M_X1_countIn 0 0 1 := ⟨⟨by decide, by decide⟩, Or.inl ⟨by decide +kernel, rfl⟩⟩
theorem r_1_countIn_1 : RS M_X1_countIn 1 3 2 := ⟨by decide, Or.inl ⟨3, by decide +kernel, rfl, rfl⟩⟩
theorem r_1_countIn_2 : RC M_X1_countIn 2 0 3 := ⟨⟨by decide, by decide⟩, Or.inl ⟨by decide +kernel, rfl⟩⟩
theorem r_1_countIn_3 : RS M_X1_countIn 3 4 5 := ⟨by decide, Or.inr ⟨by decide +kernel, rfl⟩⟩
theorem r_1_countIn_5 : RL M_X1_countIn 5 4 7 := Or.inr ⟨by decide +kernel, rfl⟩
theorem r_1_countIn_7 : RA M_X1_countIn 7 0 8 := Or.inl ⟨0, by decide +kernel, rfl, rfl⟩
theorem r_1_countIn_8 : RG M_X1_countIn 8 1 1 11 := ⟨52, _, by decide +kernel, rfl, by decide, wd_f1_52, rfl, rfl⟩
theorem r_1_countIn_11 : RB M_X1_countIn 11 (.if_icmp .ge) 59 14 := ⟨48, by decide +kernel, rfl, rfl⟩
theorem r_1_countIn_59 : RL M_X1_countIn 59 3 60 := Or.inl ⟨3, by decide +kernel, rfl, rfl⟩
theorem r_1_countIn_60 : RW M_X1_countIn 60 .ireturn 61 1 := ⟨by decide +kernel, rfl⟩
theorem r_1_countIn_14 : RA M_X1_countIn 14 0 15 := Or.inl ⟨0, by decide +kernel, rfl, rfl⟩
theorem r_1_countIn_15 : RG M_X1_countIn 15 1 0 18 := ⟨13, _, by decide +kernel, rfl, by decide, wd_f1_13, rfl, rfl⟩
theorem r_1_countIn_18 : RL M_X1_countIn 18 4 20 := Or.inr ⟨by decide +kernel, rfl⟩
theorem r_1_countIn_20 : RW M_X1_countIn 20 .aaload 21 1 := ⟨by decide +kernel, rfl⟩
theorem r_1_countIn_21 : RT M_X1_countIn 21 5 23 := ⟨by decide, Or.inr ⟨by decide +kernel, rfl⟩⟩
theorem r_1_countIn_23 : RA M_X1_countIn 23 5 25 := Or.inr ⟨by decide +kernel, rfl⟩
theorem r_1_countIn_25 : RB M_X1_countIn 25 .ifnull 53 28 := ⟨28, by decide +kernel, rfl, rfl⟩
theorem r_1_countIn_28 : RA M_X1_countIn 28 5 30 := Or.inr ⟨by decide +kernel, rfl⟩
theorem r_1_countIn_30 : RL M_X1_countIn 30 1 31 := Or.inl ⟨1, by decide +kernel, rfl, rfl⟩
theorem r_1_countIn_31 : RKv M_X1_countIn M_X3_isIn 31 1 3 34 := ⟨168, by decide +kernel, wd_m1_168, ok_M_X3_isIn, wd_s3_isIn, rfl⟩
theorem r_1_countIn_34 : RB M_X1_countIn 34 (.ifCond .eq) 53 37 := ⟨19, by decide +kernel, rfl, rfl⟩
theorem r_1_countIn_53 : RI M_X1_countIn 53 4 1 56 := ⟨by decide, by decide +kernel, rfl⟩
theorem r_1_countIn_56 : RB M_X1_countIn 56 .goto 5 59 := ⟨(-51), by decide +kernel, rfl, rfl⟩
theorem r_1_countIn_37 : RL M_X1_countIn 37 2 38 := Or.inl ⟨2, by decide +kernel, rfl, rfl⟩
theorem r_1_countIn_38 : RB M_X1_countIn 38 (.ifCond .eq) 50 41 := ⟨12, by decide +kernel, rfl, rfl⟩
theorem r_1_countIn_50 : RI M_X1_countIn 50 3 1 53 := ⟨by decide, by decide +kernel, rfl⟩
theorem r_1_countIn_41 : RA M_X1_countIn 41 5 43 := Or.inr ⟨by decide +kernel, rfl⟩
theorem r_1_countIn_43 : RG M_X1_countIn 43 3 1 46 := ⟨149, _, by decide +kernel, rfl, by decide, wd_f1_149, rfl, rfl⟩
theorem r_1_countIn_46 : RC M_X1_countIn 46 3 47 := ⟨⟨by decide, by decide⟩, Or.inl ⟨by decide +kernel, rfl⟩⟩
theorem r_1_countIn_47 : RB M_X1_countIn 47 (.if_icmp .ne) 53 50 := ⟨6, by decide +kernel, rfl, rfl⟩
theorem r_1_countGraded_0 : RC M_X1_countGraded 0 0 1 := ⟨⟨by decide, by decide⟩, Or.inl ⟨by decide +kernel, rfl⟩⟩
theorem r_1_countGraded_1 : RS M_X1_countGraded 1 2 2 := ⟨by decide, Or.inl ⟨2, by decide +kernel, rfl, rfl⟩⟩
theorem r_1_countGraded_2 : RC M_X1_countGraded 2 0 3 := ⟨⟨by decide, by decide⟩, Or.inl ⟨by decide +kernel, rfl⟩⟩
theorem r_1_countGraded_3 : RS M_X1_countGraded 3 3 4 := ⟨by decide, Or.inl ⟨3, by decide +kernel, rfl, rfl⟩⟩
theorem r_1_countGraded_4 : RL M_X1_countGraded 4 3 5 := Or.inl ⟨3, by decide +kernel, rfl, rfl⟩
theorem r_1_countGraded_5 : RA M_X1_countGraded 5 0 6 := Or.inl ⟨0, by decide +kernel, rfl, rfl⟩
theorem r_1_countGraded_6 : RG M_X1_countGraded 6 1 1 9 := ⟨52, _, by decide +kernel, rfl, by decide, wd_f1_52, rfl, rfl⟩
theorem r_1_countGraded_9 : RB M_X1_countGraded 9 (.if_icmp .ge) 51 12 := ⟨42, by decide +kernel, rfl, rfl⟩
theorem r_1_countGraded_51 : RL M_X1_countGraded 51 2 52 := Or.inl ⟨2, by decide +kernel, rfl, rfl⟩
theorem r_1_countGraded_52 : RW M_X1_countGraded 52 .ireturn 53 1 := ⟨by decide +kernel, rfl⟩
theorem r_1_countGraded_12 : RA M_X1_countGraded 12 0 13 := Or.inl ⟨0, by decide +kernel, rfl, rfl⟩
theorem r_1_countGraded_13 : RG M_X1_countGraded 13 1 0 16 := ⟨13, _, by decide +kernel, rfl, by decide, wd_f1_13, rfl, rfl⟩
theorem r_1_countGraded_16 : RL M_X1_countGraded 16 3 17 := Or.inl ⟨3, by decide +kernel, rfl, rfl⟩
theorem r_1_countGraded_17 : RW M_X1_countGraded 17 .aaload 18 1 := ⟨by decide +kernel, rfl⟩
theorem r_1_countGraded_18 : RT M_X1_countGraded 18 4 20 := ⟨by decide, Or.inr ⟨by decide +kernel, rfl⟩⟩
theorem r_1_countGraded_20 : RA M_X1_countGraded 20 4 22 := Or.inr ⟨by decide +kernel, rfl⟩
theorem r_1_countGraded_22 : RB M_X1_countGraded 22 .ifnull 45 25 := ⟨23, by decide +kernel, rfl, rfl⟩
theorem r_1_countGraded_25 : RA M_X1_countGraded 25 4 27 := Or.inr ⟨by decide +kernel, rfl⟩
theorem r_1_countGraded_27 : RL M_X1_countGraded 27 1 28 := Or.inl ⟨1, by decide +kernel, rfl, rfl⟩
theorem r_1_countGraded_28 : RKv M_X1_countGraded M_X3_isIn 28 1 3 31 := ⟨168, by decide +kernel, wd_m1_168, ok_M_X3_isIn, wd_s3_isIn, rfl⟩
theorem r_1_countGraded_31 : RB M_X1_countGraded 31 (.ifCond .eq) 45 34 := ⟨14, by decide +kernel, rfl, rfl⟩
theorem r_1_countGraded_45 : RI M_X1_countGraded 45 3 1 48 := ⟨by decide, by decide +kernel, rfl⟩
theorem r_1_countGraded_48 : RB M_X1_countGraded 48 .goto 4 51 := ⟨(-44), by decide +kernel, rfl, rfl⟩
theorem r_1_countGraded_34 : RA M_X1_countGraded 34 4 36 := Or.inr ⟨by decide +kernel, rfl⟩
theorem r_1_countGraded_36 : RG M_X1_countGraded 36 3 6 39 := ⟨88, _, by decide +kernel, rfl, by decide, wd_f1_88, rfl, rfl⟩
theorem r_1_countGraded_39 : RB M_X1_countGraded 39 (.ifCond .le) 45 42 := ⟨6, by decide +kernel, rfl, rfl⟩
theorem r_1_countGraded_42 : RI M_X1_countGraded 42 2 1 45 := ⟨by decide, by decide +kernel, rfl⟩
theorem r_1_countHandedOver_0 : RC M_X1_countHandedOver 0 0 1 := ⟨⟨by decide, by decide⟩, Or.inl ⟨by decide +kernel, rfl⟩⟩
theorem r_1_countHandedOver_1 : RS M_X1_countHandedOver 1 4 3 := ⟨by decide, Or.inr ⟨by decide +kernel, rfl⟩⟩
theorem r_1_countHandedOver_3 : RC M_X1_countHandedOver 3 0 4 := ⟨⟨by decide, by decide⟩, Or.inl ⟨by decide +kernel, rfl⟩⟩
theorem r_1_countHandedOver_4 : RS M_X1_countHandedOver 4 5 6 := ⟨by decide, Or.inr ⟨by decide +kernel, rfl⟩⟩
theorem r_1_countHandedOver_6 : RL M_X1_countHandedOver 6 5 8 := Or.inr ⟨by decide +kernel, rfl⟩
theorem r_1_countHandedOver_8 : RA M_X1_countHandedOver 8 0 9 := Or.inl ⟨0, by decide +kernel, rfl, rfl⟩
theorem r_1_countHandedOver_9 : RG M_X1_countHandedOver 9 1 1 12 := ⟨52, _, by decide +kernel, rfl, by decide, wd_f1_52, rfl, rfl⟩
theorem r_1_countHandedOver_12 : RB M_X1_countHandedOver 12 (.if_icmp .ge) 86 15 := ⟨74, by decide +kernel, rfl, rfl⟩
theorem r_1_countHandedOver_86 : RL M_X1_countHandedOver 86 4 88 := Or.inr ⟨by decide +kernel, rfl⟩
theorem r_1_countHandedOver_88 : RW M_X1_countHandedOver 88 .ireturn 89 1 := ⟨by decide +kernel, rfl⟩
theorem r_1_countHandedOver_15 : RA M_X1_countHandedOver 15 0 16 := Or.inl ⟨0, by decide +kernel, rfl, rfl⟩
theorem r_1_countHandedOver_16 : RG M_X1_countHandedOver 16 1 0 19 := ⟨13, _, by decide +kernel, rfl, by decide, wd_f1_13, rfl, rfl⟩
theorem r_1_countHandedOver_19 : RL M_X1_countHandedOver 19 5 21 := Or.inr ⟨by decide +kernel, rfl⟩
theorem r_1_countHandedOver_21 : RW M_X1_countHandedOver 21 .aaload 22 1 := ⟨by decide +kernel, rfl⟩
theorem r_1_countHandedOver_22 : RT M_X1_countHandedOver 22 6 24 := ⟨by decide, Or.inr ⟨by decide +kernel, rfl⟩⟩
theorem r_1_countHandedOver_24 : RA M_X1_countHandedOver 24 6 26 := Or.inr ⟨by decide +kernel, rfl⟩
theorem r_1_countHandedOver_26 : RB M_X1_countHandedOver 26 .ifnull 51 29 := ⟨25, by decide +kernel, rfl, rfl⟩
theorem r_1_countHandedOver_29 : RA M_X1_countHandedOver 29 6 31 := Or.inr ⟨by decide +kernel, rfl⟩
theorem r_1_countHandedOver_31 : RG M_X1_countHandedOver 31 3 2 34 := ⟨129, _, by decide +kernel, rfl, by decide, wd_f1_129, rfl, rfl⟩
theorem r_1_countHandedOver_34 : RL M_X1_countHandedOver 34 1 35 := Or.inl ⟨1, by decide +kernel, rfl, rfl⟩
theorem r_1_countHandedOver_35 : RB M_X1_countHandedOver 35 (.if_icmp .ne) 51 38 := ⟨16, by decide +kernel, rfl, rfl⟩
theorem r_1_countHandedOver_51 : RC M_X1_countHandedOver 51 0 52 := ⟨⟨by decide, by decide⟩, Or.inl ⟨by decide +kernel, rfl⟩⟩
theorem r_1_countHandedOver_52 : RS M_X1_countHandedOver 52 7 54 := ⟨by decide, Or.inr ⟨by decide +kernel, rfl⟩⟩
theorem r_1_countHandedOver_54 : RL M_X1_countHandedOver 54 7 56 := Or.inr ⟨by decide +kernel, rfl⟩
theorem r_1_countHandedOver_56 : RB M_X1_countHandedOver 56 (.ifCond .eq) 80 59 := ⟨24, by decide +kernel, rfl, rfl⟩
theorem r_1_countHandedOver_80 : RI M_X1_countHandedOver 80 5 1 83 := ⟨by decide, by decide +kernel, rfl⟩
theorem r_1_countHandedOver_83 : RB M_X1_countHandedOver 83 .goto 6 86 := ⟨(-77), by decide +kernel, rfl, rfl⟩
theorem r_1_countHandedOver_59 : RA M_X1_countHandedOver 59 6 61 := Or.inr ⟨by decide +kernel, rfl⟩
theorem r_1_countHandedOver_61 : RG M_X1_countHandedOver 61 3 9 64 := ⟨161, _, by decide +kernel, rfl, by decide, wd_f1_161, rfl, rfl⟩
theorem r_1_countHandedOver_64 : RL M_X1_countHandedOver 64 2 65 := Or.inl ⟨2, by decide +kernel, rfl, rfl⟩
theorem r_1_countHandedOver_65 : RB M_X1_countHandedOver 65 (.if_icmp .lt) 80 68 := ⟨15, by decide +kernel, rfl, rfl⟩
theorem r_1_countHandedOver_68 : RA M_X1_countHandedOver 68 6 70 := Or.inr ⟨by decide +kernel, rfl⟩
theorem r_1_countHandedOver_70 : RG M_X1_countHandedOver 70 3 9 73 := ⟨161, _, by decide +kernel, rfl, by decide, wd_f1_161, rfl, rfl⟩
theorem r_1_countHandedOver_73 : RL M_X1_countHandedOver 73 3 74 := Or.inl ⟨3, by decide +kernel, rfl, rfl⟩
theorem r_1_countHandedOver_74 : RB M_X1_countHandedOver 74 (.if_icmp .gt) 80 77 := ⟨6, by decide +kernel, rfl, rfl⟩
theorem r_1_countHandedOver_77 : RI M_X1_countHandedOver 77 4 1 80 := ⟨by decide, by decide +kernel, rfl⟩
theorem r_1_countHandedOver_38 : RA M_X1_countHandedOver 38 6 40 := Or.inr ⟨by decide +kernel, rfl⟩
theorem r_1_countHandedOver_40 : RG M_X1_countHandedOver 40 3 8 43 := ⟨70, _, by decide +kernel, rfl, by decide, wd_f1_70, rfl, rfl⟩
theorem r_1_countHandedOver_43 : RC M_X1_countHandedOver 43 5 44 := ⟨⟨by decide, by decide⟩, Or.inl ⟨by decide +kernel, rfl⟩⟩
theorem r_1_countHandedOver_44 : RB M_X1_countHandedOver 44 (.if_icmp .ne) 51 47 := ⟨7, by decide +kernel, rfl, rfl⟩
theorem r_1_countHandedOver_47 : RC M_X1_countHandedOver 47 1 48 := ⟨⟨by decide, by decide⟩, Or.inl ⟨by decide +kernel, rfl⟩⟩
theorem r_1_countHandedOver_48 : RB M_X1_countHandedOver 48 .goto 52 51 := ⟨4, by decide +kernel, rfl, rfl⟩
theorem r_1_countStays_0 : RC M_X1_countStays 0 0 1 := ⟨⟨by decide, by decide⟩, Or.inl ⟨by decide +kernel, rfl⟩⟩
theorem r_1_countStays_1 : RS M_X1_countStays 1 2 2 := ⟨by decide, Or.inl ⟨2, by decide +kernel, rfl, rfl⟩⟩
theorem r_1_countStays_2 : RC M_X1_countStays 2 0 3 := ⟨⟨by decide, by decide⟩, Or.inl ⟨by decide +kernel, rfl⟩⟩
theorem r_1_countStays_3 : RS M_X1_countStays 3 3 4 := ⟨by decide, Or.inl ⟨3, by decide +kernel, rfl, rfl⟩⟩
theorem r_1_countStays_4 : RL M_X1_countStays 4 3 5 := Or.inl ⟨3, by decide +kernel, rfl, rfl⟩
theorem r_1_countStays_5 : RA M_X1_countStays 5 0 6 := Or.inl ⟨0, by decide +kernel, rfl, rfl⟩
theorem r_1_countStays_6 : RG M_X1_countStays 6 1 3 9 := ⟨135, _, by decide +kernel, rfl, by decide, wd_f1_135, rfl, rfl⟩
theorem r_1_countStays_9 : RB M_X1_countStays 9 (.if_icmp .ge) 31 12 := ⟨22, by decide +kernel, rfl, rfl⟩
theorem r_1_countStays_31 : RL M_X1_countStays 31 2 32 := Or.inl ⟨2, by decide +kernel, rfl, rfl⟩
theorem r_1_countStays_32 : RW M_X1_countStays 32 .ireturn 33 1 := ⟨by decide +kernel, rfl⟩
theorem r_1_countStays_12 : RA M_X1_countStays 12 0 13 := Or.inl ⟨0, by decide +kernel, rfl, rfl⟩
theorem r_1_countStays_13 : RG M_X1_countStays 13 1 6 16 := ⟨21, _, by decide +kernel, rfl, by decide, wd_f1_21, rfl, rfl⟩
theorem r_1_countStays_16 : RL M_X1_countStays 16 3 17 := Or.inl ⟨3, by decide +kernel, rfl, rfl⟩
theorem r_1_countStays_17 : RW M_X1_countStays 17 .iaload 18 1 := ⟨by decide +kernel, rfl⟩
theorem r_1_countStays_18 : RL M_X1_countStays 18 1 19 := Or.inl ⟨1, by decide +kernel, rfl, rfl⟩
theorem r_1_countStays_19 : RB M_X1_countStays 19 (.if_icmp .ne) 25 22 := ⟨6, by decide +kernel, rfl, rfl⟩
theorem r_1_countStays_25 : RI M_X1_countStays 25 3 1 28 := ⟨by decide, by decide +kernel, rfl⟩
theorem r_1_countStays_28 : RB M_X1_countStays 28 .goto 4 31 := ⟨(-24), by decide +kernel, rfl, rfl⟩
theorem r_1_countStays_22 : RI M_X1_countStays 22 2 1 25 := ⟨by decide, by decide +kernel, rfl⟩
theorem r_12_staysOf_0 : RC M_X12_staysOf 0 0 1 := ⟨⟨by decide, by decide⟩, Or.inl ⟨by decide +kernel, rfl⟩⟩
theorem r_12_staysOf_1 : RS M_X12_staysOf 1 2 2 := ⟨by decide, Or.inl ⟨2, by decide +kernel, rfl, rfl⟩⟩
theorem r_12_staysOf_2 : RC M_X12_staysOf 2 0 3 := ⟨⟨by decide, by decide⟩, Or.inl ⟨by decide +kernel, rfl⟩⟩
theorem r_12_staysOf_3 : RS M_X12_staysOf 3 3 4 := ⟨by decide, Or.inl ⟨3, by decide +kernel, rfl, rfl⟩⟩
theorem r_12_staysOf_4 : RL M_X12_staysOf 4 3 5 := Or.inl ⟨3, by decide +kernel, rfl, rfl⟩
theorem r_12_staysOf_5 : RA M_X12_staysOf 5 0 6 := Or.inl ⟨0, by decide +kernel, rfl, rfl⟩
theorem r_12_staysOf_6 : RG M_X12_staysOf 6 12 22 9 := ⟨265, _, by decide +kernel, rfl, by decide, wd_f12_265, rfl, rfl⟩
theorem r_12_staysOf_9 : RB M_X12_staysOf 9 (.if_icmp .ge) 36 12 := ⟨27, by decide +kernel, rfl, rfl⟩
theorem r_12_staysOf_36 : RL M_X12_staysOf 36 2 37 := Or.inl ⟨2, by decide +kernel, rfl, rfl⟩
theorem r_12_staysOf_37 : RW M_X12_staysOf 37 .ireturn 38 1 := ⟨by decide +kernel, rfl⟩
theorem r_12_staysOf_12 : RL M_X12_staysOf 12 2 13 := Or.inl ⟨2, by decide +kernel, rfl, rfl⟩
theorem r_12_staysOf_13 : RA M_X12_staysOf 13 0 14 := Or.inl ⟨0, by decide +kernel, rfl, rfl⟩
theorem r_12_staysOf_14 : RG M_X12_staysOf 14 12 18 17 := ⟨55, _, by decide +kernel, rfl, by decide, wd_f12_55, rfl, rfl⟩
theorem r_12_staysOf_17 : RL M_X12_staysOf 17 3 18 := Or.inl ⟨3, by decide +kernel, rfl, rfl⟩
theorem r_12_staysOf_18 : RW M_X12_staysOf 18 .iaload 19 1 := ⟨by decide +kernel, rfl⟩
theorem r_12_staysOf_19 : RL M_X12_staysOf 19 1 20 := Or.inl ⟨1, by decide +kernel, rfl, rfl⟩
theorem r_12_staysOf_20 : RB M_X12_staysOf 20 (.if_icmp .ne) 27 23 := ⟨7, by decide +kernel, rfl, rfl⟩
theorem r_12_staysOf_27 : RC M_X12_staysOf 27 0 28 := ⟨⟨by decide, by decide⟩, Or.inl ⟨by decide +kernel, rfl⟩⟩
theorem r_12_staysOf_28 : RW M_X12_staysOf 28 .iadd 29 1 := ⟨by decide +kernel, rfl⟩
theorem r_12_staysOf_29 : RS M_X12_staysOf 29 2 30 := ⟨by decide, Or.inl ⟨2, by decide +kernel, rfl, rfl⟩⟩
theorem r_12_staysOf_30 : RI M_X12_staysOf 30 3 1 33 := ⟨by decide, by decide +kernel, rfl⟩
theorem r_12_staysOf_33 : RB M_X12_staysOf 33 .goto 4 36 := ⟨(-29), by decide +kernel, rfl, rfl⟩
theorem r_12_staysOf_23 : RC M_X12_staysOf 23 1 24 := ⟨⟨by decide, by decide⟩, Or.inl ⟨by decide +kernel, rfl⟩⟩
theorem r_12_staysOf_24 : RB M_X12_staysOf 24 .goto 28 27 := ⟨4, by decide +kernel, rfl, rfl⟩
theorem r_12_inBeds_0 : RC M_X12_inBeds 0 0 1 := ⟨⟨by decide, by decide⟩, Or.inl ⟨by decide +kernel, rfl⟩⟩
theorem r_12_inBeds_1 : RS M_X12_inBeds 1 2 2 := ⟨by decide, Or.inl ⟨2, by decide +kernel, rfl, rfl⟩⟩
theorem r_12_inBeds_2 : RC M_X12_inBeds 2 0 3 := ⟨⟨by decide, by decide⟩, Or.inl ⟨by decide +kernel, rfl⟩⟩
theorem r_12_inBeds_3 : RS M_X12_inBeds 3 3 4 := ⟨by decide, Or.inl ⟨3, by decide +kernel, rfl, rfl⟩⟩
theorem r_12_inBeds_4 : RL M_X12_inBeds 4 3 5 := Or.inl ⟨3, by decide +kernel, rfl, rfl⟩
theorem r_12_inBeds_5 : RA M_X12_inBeds 5 0 6 := Or.inl ⟨0, by decide +kernel, rfl, rfl⟩
theorem r_12_inBeds_6 : RG M_X12_inBeds 6 12 17 9 := ⟨251, _, by decide +kernel, rfl, by decide, wd_f12_251, rfl, rfl⟩
theorem r_12_inBeds_9 : RB M_X12_inBeds 9 (.if_icmp .ge) 46 12 := ⟨37, by decide +kernel, rfl, rfl⟩
theorem r_12_inBeds_46 : RL M_X12_inBeds 46 2 47 := Or.inl ⟨2, by decide +kernel, rfl, rfl⟩
theorem r_12_inBeds_47 : RW M_X12_inBeds 47 .ireturn 48 1 := ⟨by decide +kernel, rfl⟩
theorem r_12_inBeds_12 : RL M_X12_inBeds 12 2 13 := Or.inl ⟨2, by decide +kernel, rfl, rfl⟩
theorem r_12_inBeds_13 : RA M_X12_inBeds 13 0 14 := Or.inl ⟨0, by decide +kernel, rfl, rfl⟩
theorem r_12_inBeds_14 : RG M_X12_inBeds 14 12 8 17 := ⟨28, _, by decide +kernel, rfl, by decide, wd_f12_28, rfl, rfl⟩
theorem r_12_inBeds_17 : RL M_X12_inBeds 17 3 18 := Or.inl ⟨3, by decide +kernel, rfl, rfl⟩
theorem r_12_inBeds_18 : RW M_X12_inBeds 18 .iaload 19 1 := ⟨by decide +kernel, rfl⟩
theorem r_12_inBeds_19 : RC M_X12_inBeds 19 1 20 := ⟨⟨by decide, by decide⟩, Or.inl ⟨by decide +kernel, rfl⟩⟩
theorem r_12_inBeds_20 : RB M_X12_inBeds 20 (.if_icmp .gt) 37 23 := ⟨17, by decide +kernel, rfl, rfl⟩
theorem r_12_inBeds_37 : RC M_X12_inBeds 37 0 38 := ⟨⟨by decide, by decide⟩, Or.inl ⟨by decide +kernel, rfl⟩⟩
theorem r_12_inBeds_38 : RW M_X12_inBeds 38 .iadd 39 1 := ⟨by decide +kernel, rfl⟩
theorem r_12_inBeds_39 : RS M_X12_inBeds 39 2 40 := ⟨by decide, Or.inl ⟨2, by decide +kernel, rfl, rfl⟩⟩
theorem r_12_inBeds_40 : RI M_X12_inBeds 40 3 1 43 := ⟨by decide, by decide +kernel, rfl⟩
theorem r_12_inBeds_43 : RB M_X12_inBeds 43 .goto 4 46 := ⟨(-39), by decide +kernel, rfl, rfl⟩
theorem r_12_inBeds_23 : RA M_X12_inBeds 23 0 24 := Or.inl ⟨0, by decide +kernel, rfl, rfl⟩
theorem r_12_inBeds_24 : RG M_X12_inBeds 24 12 9 27 := ⟨31, _, by decide +kernel, rfl, by decide, wd_f12_31, rfl, rfl⟩
theorem r_12_inBeds_27 : RL M_X12_inBeds 27 3 28 := Or.inl ⟨3, by decide +kernel, rfl, rfl⟩
theorem r_12_inBeds_28 : RW M_X12_inBeds 28 .iaload 29 1 := ⟨by decide +kernel, rfl⟩
theorem r_12_inBeds_29 : RL M_X12_inBeds 29 1 30 := Or.inl ⟨1, by decide +kernel, rfl, rfl⟩
theorem r_12_inBeds_30 : RB M_X12_inBeds 30 (.if_icmp .ne) 37 33 := ⟨7, by decide +kernel, rfl, rfl⟩
theorem r_12_inBeds_33 : RC M_X12_inBeds 33 1 34 := ⟨⟨by decide, by decide⟩, Or.inl ⟨by decide +kernel, rfl⟩⟩
theorem r_12_inBeds_34 : RB M_X12_inBeds 34 .goto 38 37 := ⟨4, by decide +kernel, rfl, rfl⟩
theorem r_12_onTheWay_0 : RC M_X12_onTheWay 0 0 1 := ⟨⟨by decide, by decide⟩, Or.inl ⟨by decide +kernel, rfl⟩⟩
theorem r_12_onTheWay_1 : RS M_X12_onTheWay 1 1 2 := ⟨by decide, Or.inl ⟨1, by decide +kernel, rfl, rfl⟩⟩
theorem r_12_onTheWay_2 : RC M_X12_onTheWay 2 0 3 := ⟨⟨by decide, by decide⟩, Or.inl ⟨by decide +kernel, rfl⟩⟩
theorem r_12_onTheWay_3 : RS M_X12_onTheWay 3 2 4 := ⟨by decide, Or.inl ⟨2, by decide +kernel, rfl, rfl⟩⟩
theorem r_12_onTheWay_4 : RL M_X12_onTheWay 4 2 5 := Or.inl ⟨2, by decide +kernel, rfl, rfl⟩
theorem r_12_onTheWay_5 : RA M_X12_onTheWay 5 0 6 := Or.inl ⟨0, by decide +kernel, rfl, rfl⟩
theorem r_12_onTheWay_6 : RG M_X12_onTheWay 6 12 17 9 := ⟨251, _, by decide +kernel, rfl, by decide, wd_f12_251, rfl, rfl⟩
theorem r_12_onTheWay_9 : RB M_X12_onTheWay 9 (.if_icmp .ge) 47 12 := ⟨38, by decide +kernel, rfl, rfl⟩
theorem r_12_onTheWay_47 : RL M_X12_onTheWay 47 1 48 := Or.inl ⟨1, by decide +kernel, rfl, rfl⟩
theorem r_12_onTheWay_48 : RW M_X12_onTheWay 48 .ireturn 49 1 := ⟨by decide +kernel, rfl⟩
theorem r_12_onTheWay_12 : RL M_X12_onTheWay 12 1 13 := Or.inl ⟨1, by decide +kernel, rfl, rfl⟩
theorem r_12_onTheWay_13 : RA M_X12_onTheWay 13 0 14 := Or.inl ⟨0, by decide +kernel, rfl, rfl⟩
theorem r_12_onTheWay_14 : RG M_X12_onTheWay 14 12 8 17 := ⟨28, _, by decide +kernel, rfl, by decide, wd_f12_28, rfl, rfl⟩
theorem r_12_onTheWay_17 : RL M_X12_onTheWay 17 2 18 := Or.inl ⟨2, by decide +kernel, rfl, rfl⟩
theorem r_12_onTheWay_18 : RW M_X12_onTheWay 18 .iaload 19 1 := ⟨by decide +kernel, rfl⟩
theorem r_12_onTheWay_19 : RC M_X12_onTheWay 19 1 20 := ⟨⟨by decide, by decide⟩, Or.inl ⟨by decide +kernel, rfl⟩⟩
theorem r_12_onTheWay_20 : RB M_X12_onTheWay 20 (.if_icmp .ne) 38 23 := ⟨18, by decide +kernel, rfl, rfl⟩
theorem r_12_onTheWay_38 : RC M_X12_onTheWay 38 0 39 := ⟨⟨by decide, by decide⟩, Or.inl ⟨by decide +kernel, rfl⟩⟩
theorem r_12_onTheWay_39 : RW M_X12_onTheWay 39 .iadd 40 1 := ⟨by decide +kernel, rfl⟩
theorem r_12_onTheWay_40 : RS M_X12_onTheWay 40 1 41 := ⟨by decide, Or.inl ⟨1, by decide +kernel, rfl, rfl⟩⟩
theorem r_12_onTheWay_41 : RI M_X12_onTheWay 41 2 1 44 := ⟨by decide, by decide +kernel, rfl⟩
theorem r_12_onTheWay_44 : RB M_X12_onTheWay 44 .goto 4 47 := ⟨(-40), by decide +kernel, rfl, rfl⟩
theorem r_12_onTheWay_23 : RA M_X12_onTheWay 23 0 24 := Or.inl ⟨0, by decide +kernel, rfl, rfl⟩
theorem r_12_onTheWay_24 : RG M_X12_onTheWay 24 12 9 27 := ⟨31, _, by decide +kernel, rfl, by decide, wd_f12_31, rfl, rfl⟩
theorem r_12_onTheWay_27 : RL M_X12_onTheWay 27 2 28 := Or.inl ⟨2, by decide +kernel, rfl, rfl⟩
theorem r_12_onTheWay_28 : RW M_X12_onTheWay 28 .iaload 29 1 := ⟨by decide +kernel, rfl⟩
theorem r_12_onTheWay_29 : RC M_X12_onTheWay 29 16 31 := ⟨⟨by decide, by decide⟩, Or.inr (Or.inl ⟨by decide +kernel, by decide, rfl⟩)⟩
theorem r_12_onTheWay_31 : RB M_X12_onTheWay 31 (.if_icmp .ge) 38 34 := ⟨7, by decide +kernel, rfl, rfl⟩
theorem r_12_onTheWay_34 : RC M_X12_onTheWay 34 1 35 := ⟨⟨by decide, by decide⟩, Or.inl ⟨by decide +kernel, rfl⟩⟩
theorem r_12_onTheWay_35 : RB M_X12_onTheWay 35 .goto 39 38 := ⟨4, by decide +kernel, rfl, rfl⟩
theorem r_12_doneOf_0 : RC M_X12_doneOf 0 0 1 := ⟨⟨by decide, by decide⟩, Or.inl ⟨by decide +kernel, rfl⟩⟩
theorem r_12_doneOf_1 : RS M_X12_doneOf 1 2 2 := ⟨by decide, Or.inl ⟨2, by decide +kernel, rfl, rfl⟩⟩
theorem r_12_doneOf_2 : RC M_X12_doneOf 2 0 3 := ⟨⟨by decide, by decide⟩, Or.inl ⟨by decide +kernel, rfl⟩⟩
theorem r_12_doneOf_3 : RS M_X12_doneOf 3 3 4 := ⟨by decide, Or.inl ⟨3, by decide +kernel, rfl, rfl⟩⟩
theorem r_12_doneOf_4 : RL M_X12_doneOf 4 3 5 := Or.inl ⟨3, by decide +kernel, rfl, rfl⟩
theorem r_12_doneOf_5 : RA M_X12_doneOf 5 0 6 := Or.inl ⟨0, by decide +kernel, rfl, rfl⟩
theorem r_12_doneOf_6 : RG M_X12_doneOf 6 12 17 9 := ⟨251, _, by decide +kernel, rfl, by decide, wd_f12_251, rfl, rfl⟩
theorem r_12_doneOf_9 : RB M_X12_doneOf 9 (.if_icmp .ge) 87 12 := ⟨78, by decide +kernel, rfl, rfl⟩
theorem r_12_doneOf_87 : RL M_X12_doneOf 87 2 88 := Or.inl ⟨2, by decide +kernel, rfl, rfl⟩
theorem r_12_doneOf_88 : RW M_X12_doneOf 88 .ireturn 89 1 := ⟨by decide +kernel, rfl⟩
theorem r_12_doneOf_12 : RA M_X12_doneOf 12 0 13 := Or.inl ⟨0, by decide +kernel, rfl, rfl⟩
theorem r_12_doneOf_13 : RG M_X12_doneOf 13 12 8 16 := ⟨28, _, by decide +kernel, rfl, by decide, wd_f12_28, rfl, rfl⟩
theorem r_12_doneOf_16 : RL M_X12_doneOf 16 3 17 := Or.inl ⟨3, by decide +kernel, rfl, rfl⟩
theorem r_12_doneOf_17 : RW M_X12_doneOf 17 .iaload 18 1 := ⟨by decide +kernel, rfl⟩
theorem r_12_doneOf_18 : RC M_X12_doneOf 18 5 19 := ⟨⟨by decide, by decide⟩, Or.inl ⟨by decide +kernel, rfl⟩⟩
theorem r_12_doneOf_19 : RB M_X12_doneOf 19 (.if_icmp .ne) 41 22 := ⟨22, by decide +kernel, rfl, rfl⟩
theorem r_12_doneOf_41 : RC M_X12_doneOf 41 0 42 := ⟨⟨by decide, by decide⟩, Or.inl ⟨by decide +kernel, rfl⟩⟩
theorem r_12_doneOf_42 : RS M_X12_doneOf 42 4 44 := ⟨by decide, Or.inr ⟨by decide +kernel, rfl⟩⟩
theorem r_12_doneOf_44 : RL M_X12_doneOf 44 2 45 := Or.inl ⟨2, by decide +kernel, rfl, rfl⟩
theorem r_12_doneOf_45 : RL M_X12_doneOf 45 4 47 := Or.inr ⟨by decide +kernel, rfl⟩
theorem r_12_doneOf_47 : RB M_X12_doneOf 47 (.ifCond .eq) 78 50 := ⟨31, by decide +kernel, rfl, rfl⟩
theorem r_12_doneOf_78 : RC M_X12_doneOf 78 0 79 := ⟨⟨by decide, by decide⟩, Or.inl ⟨by decide +kernel, rfl⟩⟩
theorem r_12_doneOf_79 : RW M_X12_doneOf 79 .iadd 80 1 := ⟨by decide +kernel, rfl⟩
theorem r_12_doneOf_80 : RS M_X12_doneOf 80 2 81 := ⟨by decide, Or.inl ⟨2, by decide +kernel, rfl, rfl⟩⟩
theorem r_12_doneOf_81 : RI M_X12_doneOf 81 3 1 84 := ⟨by decide, by decide +kernel, rfl⟩
theorem r_12_doneOf_84 : RB M_X12_doneOf 84 .goto 4 87 := ⟨(-80), by decide +kernel, rfl, rfl⟩
theorem r_12_doneOf_50 : RA M_X12_doneOf 50 0 51 := Or.inl ⟨0, by decide +kernel, rfl, rfl⟩
theorem r_12_doneOf_51 : RG M_X12_doneOf 51 12 15 54 := ⟨49, _, by decide +kernel, rfl, by decide, wd_f12_49, rfl, rfl⟩
theorem r_12_doneOf_54 : RL M_X12_doneOf 54 3 55 := Or.inl ⟨3, by decide +kernel, rfl, rfl⟩
theorem r_12_doneOf_55 : RW M_X12_doneOf 55 .iaload 56 1 := ⟨by decide +kernel, rfl⟩
theorem r_12_doneOf_56 : RA M_X12_doneOf 56 0 57 := Or.inl ⟨0, by decide +kernel, rfl, rfl⟩
theorem r_12_doneOf_57 : RG M_X12_doneOf 57 12 32 60 := ⟨88, _, by decide +kernel, rfl, by decide, wd_f12_88, rfl, rfl⟩
theorem r_12_doneOf_60 : RL M_X12_doneOf 60 1 61 := Or.inl ⟨1, by decide +kernel, rfl, rfl⟩
theorem r_12_doneOf_61 : RW M_X12_doneOf 61 .iaload 62 1 := ⟨by decide +kernel, rfl⟩
theorem r_12_doneOf_62 : RA M_X12_doneOf 62 0 63 := Or.inl ⟨0, by decide +kernel, rfl, rfl⟩
theorem r_12_doneOf_63 : RG M_X12_doneOf 63 12 33 66 := ⟨91, _, by decide +kernel, rfl, by decide, wd_f12_91, rfl, rfl⟩
theorem r_12_doneOf_66 : RL M_X12_doneOf 66 1 67 := Or.inl ⟨1, by decide +kernel, rfl, rfl⟩
theorem r_12_doneOf_67 : RW M_X12_doneOf 67 .iaload 68 1 := ⟨by decide +kernel, rfl⟩
theorem r_12_doneOf_68 : RKs M_X12_doneOf M_X12_within 68 3 71 := ⟨240, by decide +kernel, Or.inl wd_m12_240, ok_M_X12_within, rfl⟩
theorem r_12_doneOf_71 : RB M_X12_doneOf 71 (.ifCond .eq) 78 74 := ⟨7, by decide +kernel, rfl, rfl⟩
theorem r_12_doneOf_74 : RC M_X12_doneOf 74 1 75 := ⟨⟨by decide, by decide⟩, Or.inl ⟨by decide +kernel, rfl⟩⟩
theorem r_12_doneOf_75 : RB M_X12_doneOf 75 .goto 79 78 := ⟨4, by decide +kernel, rfl, rfl⟩
theorem r_12_doneOf_22 : RA M_X12_doneOf 22 0 23 := Or.inl ⟨0, by decide +kernel, rfl, rfl⟩
theorem r_12_doneOf_23 : RG M_X12_doneOf 23 12 7 26 := ⟨25, _, by decide +kernel, rfl, by decide, wd_f12_25, rfl, rfl⟩
theorem r_12_doneOf_26 : RL M_X12_doneOf 26 3 27 := Or.inl ⟨3, by decide +kernel, rfl, rfl⟩
theorem r_12_doneOf_27 : RW M_X12_doneOf 27 .iaload 28 1 := ⟨by decide +kernel, rfl⟩
theorem r_12_doneOf_28 : RA M_X12_doneOf 28 0 29 := Or.inl ⟨0, by decide +kernel, rfl, rfl⟩
theorem r_12_doneOf_29 : RG M_X12_doneOf 29 12 30 32 := ⟨82, _, by decide +kernel, rfl, by decide, wd_f12_82, rfl, rfl⟩
theorem r_12_doneOf_32 : RL M_X12_doneOf 32 1 33 := Or.inl ⟨1, by decide +kernel, rfl, rfl⟩
theorem r_12_doneOf_33 : RW M_X12_doneOf 33 .iaload 34 1 := ⟨by decide +kernel, rfl⟩
theorem r_12_doneOf_34 : RB M_X12_doneOf 34 (.if_icmp .ne) 41 37 := ⟨7, by decide +kernel, rfl, rfl⟩
theorem r_12_doneOf_37 : RC M_X12_doneOf 37 1 38 := ⟨⟨by decide, by decide⟩, Or.inl ⟨by decide +kernel, rfl⟩⟩
theorem r_12_doneOf_38 : RB M_X12_doneOf 38 .goto 42 41 := ⟨4, by decide +kernel, rfl, rfl⟩
set_option maxRecDepth 10000 in
theorem sp_X3_enter {l : Launch} {w : Wo} {d : Nat} {G : PH} {P : Option PV → PH → Prop} {p s c t : Int} (hP : P none (sF (sF (sF (sF G 3 (p) 8 (s)) 3 (p) 10 (c)) 3 (p) 9 (t)) 3 (p) 11 (-1))) : PW l w M_X3_enter (d + 0) 0 [some (vR 3 (p)), some (vI (s)), some (vI (c)), some (vI (t))] [] G P := by
  refine pw_aload r_3_enter_0 rfl ?_
  refine pw_iload r_3_enter_1 rfl ?_
  refine pw_putI r_3_enter_2 (by decide +kernel) fs_3_8 (by decide) ?_
  refine pw_aload r_3_enter_5 rfl ?_
  refine pw_iload r_3_enter_6 rfl ?_
  refine pw_putI r_3_enter_7 (by decide +kernel) fs_3_10 (by decide) ?_
  refine pw_aload r_3_enter_10 rfl ?_
  refine pw_iload r_3_enter_11 rfl ?_
  refine pw_putI r_3_enter_12 (by decide +kernel) fs_3_9 (by decide) ?_
  refine pw_aload r_3_enter_15 rfl ?_
  refine pw_const r_3_enter_16 ?_
  refine pw_putI r_3_enter_17 (by decide +kernel) fs_3_11 (by decide) ?_
  refine pw_vret r_3_enter_20 rfl (Nat.le_refl _) ⟨rfl, ?_⟩
  exact hP
set_option maxRecDepth 10000 in
theorem sp_X3_isIn {l : Launch} {w : Wo} {d : Nat} {G : PH} {P : Option PV → PH → Prop} {p c : Int} (hP : P (some (vI (b2i ((gF G 3 (p) 8) = 0 ∧ (gF G 3 (p) 10) = c)))) G) : PW l w M_X3_isIn (d + 0) 0 [some (vR 3 (p)), some (vI (c))] [] G P := by
  refine pw_aload r_3_isIn_0 rfl ?_
  refine pw_getI r_3_isIn_1 fs_3_8 (by decide) ?_
  refine pw_if_ne r_3_isIn_4 (fun h04 => ?_) (fun h04 => ?_)
  · skip
    refine pw_const r_3_isIn_19 ?_
    refine pw_zret r_3_isIn_20 rfl (Or.inl rfl) (Nat.le_refl _) ⟨rfl, ?_⟩
    exact pe hP (by first | rfl | omega | exact (b2i_t (by omega)).symm | exact (b2i_f (by omega)).symm)
  · skip
    refine pw_aload r_3_isIn_7 rfl ?_
    refine pw_getI r_3_isIn_8 fs_3_10 (by decide) ?_
    refine pw_iload r_3_isIn_11 rfl ?_
    refine pw_icmp_ne r_3_isIn_12 (fun h12 => ?_) (fun h12 => ?_)
    · skip
      refine pw_const r_3_isIn_19 ?_
      refine pw_zret r_3_isIn_20 rfl (Or.inl rfl) (Nat.le_refl _) ⟨rfl, ?_⟩
      exact pe hP (by first | rfl | omega | exact (b2i_t (by omega)).symm | exact (b2i_f (by omega)).symm)
    · skip
      refine pw_const r_3_isIn_15 ?_
      refine pw_goto r_3_isIn_16 ?_
      refine pw_zret r_3_isIn_20 rfl (Or.inr rfl) (Nat.le_refl _) ⟨rfl, ?_⟩
      exact pe hP (by first | rfl | omega | exact (b2i_t (by omega)).symm | exact (b2i_f (by omega)).symm)
set_option maxRecDepth 10000 in
theorem sp_X1_get {l : Launch} {w : Wo} {d : Nat} {G : PH} {P : Option PV → PH → Prop} {p : Int} (hp : ∀ i, 0 ≤ i → i < (gF G 1 0 1) → gD G 30 0 i = some (3, i)) (hsz : 0 ≤ (gF G 1 0 1) ∧ (gF G 1 0 1) ≤ 150) (h1 : ¬ (0 ≤ p ∧ p < (gF G 1 0 1)) → P (some (vN)) G) (h2 : (0 ≤ p ∧ p < (gF G 1 0 1)) → P (some (vR 3 (p))) G) : PW l w M_X1_get (d + 0) 0 [some (vR 1 (0)), some (vI (p))] [] G P := by
  refine pw_iload r_1_get_0 rfl ?_
  refine pw_if_lt r_1_get_1 (fun h01 => ?_) (fun h01 => ?_)
  · skip
    refine pw_null r_1_get_28 ?_
    refine pw_aret r_1_get_29 rfl (Or.inl ⟨_, rfl⟩) (Nat.le_refl _) ⟨rfl, ?_⟩
    exact h1 (by omega)
  · skip
    refine pw_iload r_1_get_4 rfl ?_
    refine pw_aload r_1_get_5 rfl ?_
    refine pw_getI r_1_get_6 fs_1_1 (by decide) ?_
    refine pw_icmp_ge r_1_get_9 (fun h09 => ?_) (fun h09 => ?_)
    · skip
      refine pw_null r_1_get_28 ?_
      refine pw_aret r_1_get_29 rfl (Or.inl ⟨_, rfl⟩) (Nat.le_refl _) ⟨rfl, ?_⟩
      exact h1 (by omega)
    · skip
      refine pw_iload r_1_get_12 rfl ?_
      refine pw_const r_1_get_13 ?_
      refine pw_icmp_ge r_1_get_16 (fun h16 => ?_) (fun h16 => ?_)
      · skip
        refine pw_null r_1_get_28 ?_
        refine pw_aret r_1_get_29 rfl (Or.inl ⟨_, rfl⟩) (Nat.le_refl _) ⟨rfl, ?_⟩
        exact h1 (by omega)
      · skip
        refine pw_aload r_1_get_19 rfl ?_
        refine pw_getR r_1_get_20 fs_1_0 (by decide) ?_
        refine pw_iload r_1_get_23 rfl ?_
        refine pw_aaldPv (q := some (3, p)) r_1_get_24 (by omega) (by omega) (hp p (by omega) (by omega)) ?_
        refine pw_goto r_1_get_25 ?_
        refine pw_aret r_1_get_29 rfl (Or.inl ⟨_, rfl⟩) (Nat.le_refl _) ⟨rfl, ?_⟩
        exact h2 ⟨by omega, by omega⟩
set_option maxRecDepth 10000 in
theorem sp_X1_setRise {l : Launch} {w : Wo} {d : Nat} {G : PH} {P : Option PV → PH → Prop} {g v : Int} (h1 : ¬ ((1 ≤ g ∧ g ≤ 9) ∧ 0 ≤ v ∧ v ≤ 99) → P (some (vI (-1))) G) (h2 : (1 ≤ g ∧ g ≤ 9) → (0 ≤ v ∧ v ≤ 99) → P (some (vI (gA G 31 0 (g)))) (sA G 31 0 g v)) : PW l w M_X1_setRise (d + 1) 0 [some (vR 1 (0)), some (vI (g)), some (vI (v)), none] [] G P := by
  refine pw_iload r_1_setRise_0 rfl ?_
  refine pw_const r_1_setRise_1 ?_
  refine pw_const r_1_setRise_2 ?_
  refine pw_callS (av := [vI (g), vI (1), vI (9)]) (st := []) (ls0 := [some (vI (g)), some (vI (1)), some (vI (9))]) r_1_setRise_4 rfl rfl rfl (Nat.le_refl _) ?_
  refine sp_X11_within  ?_
  refine pw_if_eqB r_1_setRise_7 (fun h07 => ?_) (fun h07 => ?_)
  · skip
    refine pw_const r_1_setRise_20 ?_
    refine pw_iret r_1_setRise_21 rfl (Nat.le_refl _) ⟨rfl, ?_⟩
    first | exact h1 (by omega) | exact h2 (by omega) (by omega)
  · skip
    refine pw_iload r_1_setRise_10 rfl ?_
    refine pw_const r_1_setRise_11 ?_
    refine pw_const r_1_setRise_12 ?_
    refine pw_callS (av := [vI (v), vI (0), vI (99)]) (st := []) (ls0 := [some (vI (v)), some (vI (0)), some (vI (99))]) r_1_setRise_14 rfl rfl rfl (Nat.le_refl _) ?_
    refine sp_X11_within  ?_
    refine pw_if_neB r_1_setRise_17 (fun h17 => ?_) (fun h17 => ?_)
    · skip
      refine pw_aload r_1_setRise_22 rfl ?_
      refine pw_getR r_1_setRise_23 fs_1_5 (by decide) ?_
      refine pw_iload r_1_setRise_26 rfl ?_
      refine pw_iald r_1_setRise_27 sh31 (by omega) (by omega) ?_
      refine pw_istore (ls' := [some (vR 1 (0)), some (vI (g)), some (vI (v)), some (vI (gA G 31 (0) (g)))]) r_1_setRise_28 rfl rfl ?_
      refine pw_aload r_1_setRise_29 rfl ?_
      refine pw_getR r_1_setRise_30 fs_1_5 (by decide) ?_
      refine pw_iload r_1_setRise_33 rfl ?_
      refine pw_iload r_1_setRise_34 rfl ?_
      refine pw_iast r_1_setRise_35 sh31 (by omega) (by omega) ?_
      refine pw_iload r_1_setRise_36 rfl ?_
      refine pw_iret r_1_setRise_37 rfl (Nat.le_refl _) ⟨rfl, ?_⟩
      first | exact h1 (by omega) | exact h2 (by omega) (by omega)
    · skip
      refine pw_const r_1_setRise_20 ?_
      refine pw_iret r_1_setRise_21 rfl (Nat.le_refl _) ⟨rfl, ?_⟩
      first | exact h1 (by omega) | exact h2 (by omega) (by omega)
set_option maxRecDepth 10000 in
theorem sp_X12_rise {l : Launch} {w : Wo} {d : Nat} {G : PH} {P : Option PV → PH → Prop} {g v : Int} (h1 : ¬ ((1 ≤ g ∧ g ≤ 9) ∧ 0 ≤ v ∧ v ≤ 99) → P (some (vI (-1))) G) (h2 : (1 ≤ g ∧ g ≤ 9) → (0 ≤ v ∧ v ≤ 99) → P (some (vI (gA G 203 0 (g)))) (sA G 203 0 g v)) : PW l w M_X12_rise (d + 1) 0 [some (vR 12 (0)), some (vI (g)), some (vI (v)), none] [] G P := by
  refine pw_iload r_12_rise_0 rfl ?_
  refine pw_const r_12_rise_1 ?_
  refine pw_const r_12_rise_2 ?_
  refine pw_callS (av := [vI (g), vI (1), vI (9)]) (st := []) (ls0 := [some (vI (g)), some (vI (1)), some (vI (9))]) r_12_rise_4 rfl rfl rfl (Nat.le_refl _) ?_
  refine sp_X12_within  ?_
  refine pw_if_eqB r_12_rise_7 (fun h07 => ?_) (fun h07 => ?_)
  · skip
    refine pw_const r_12_rise_20 ?_
    refine pw_iret r_12_rise_21 rfl (Nat.le_refl _) ⟨rfl, ?_⟩
    first | exact h1 (by omega) | exact h2 (by omega) (by omega)
  · skip
    refine pw_iload r_12_rise_10 rfl ?_
    refine pw_const r_12_rise_11 ?_
    refine pw_const r_12_rise_12 ?_
    refine pw_callS (av := [vI (v), vI (0), vI (99)]) (st := []) (ls0 := [some (vI (v)), some (vI (0)), some (vI (99))]) r_12_rise_14 rfl rfl rfl (Nat.le_refl _) ?_
    refine sp_X12_within  ?_
    refine pw_if_neB r_12_rise_17 (fun h17 => ?_) (fun h17 => ?_)
    · skip
      refine pw_aload r_12_rise_22 rfl ?_
      refine pw_getR r_12_rise_23 fs_12_5 (by decide) ?_
      refine pw_iload r_12_rise_26 rfl ?_
      refine pw_iald r_12_rise_27 sh203 (by omega) (by omega) ?_
      refine pw_istore (ls' := [some (vR 12 (0)), some (vI (g)), some (vI (v)), some (vI (gA G 203 (0) (g)))]) r_12_rise_28 rfl rfl ?_
      refine pw_aload r_12_rise_29 rfl ?_
      refine pw_getR r_12_rise_30 fs_12_5 (by decide) ?_
      refine pw_iload r_12_rise_33 rfl ?_
      refine pw_iload r_12_rise_34 rfl ?_
      refine pw_iast r_12_rise_35 sh203 (by omega) (by omega) ?_
      refine pw_iload r_12_rise_36 rfl ?_
      refine pw_iret r_12_rise_37 rfl (Nat.le_refl _) ⟨rfl, ?_⟩
      first | exact h1 (by omega) | exact h2 (by omega) (by omega)
    · skip
      refine pw_const r_12_rise_20 ?_
      refine pw_iret r_12_rise_21 rfl (Nat.le_refl _) ⟨rfl, ?_⟩
      first | exact h1 (by omega) | exact h2 (by omega) (by omega)
set_option maxRecDepth 10000 in
theorem sp_X1_countState {l : Launch} {w : Wo} {d : Nat} {G : PH} {P : Option PV → PH → Prop} {s : Int} (hp : ∀ i, 0 ≤ i → i < (gF G 1 0 1) → gD G 30 0 i = some (3, i)) (hsz : 0 ≤ (gF G 1 0 1) ∧ (gF G 1 0 1) ≤ 150) (hP : P (some (vI (cnt (fun i => (gF G 3 (i) 8) = s) (gF G 1 0 1)))) G) : PW l w M_X1_countState (d + 0) 0 [some (vR 1 (0)), some (vI (s)), none, none, none] [] G P := by
  refine pw_const r_1_countState_0 ?_
  refine pw_istore (ls' := [some (vR 1 (0)), some (vI (s)), some (vI (0)), none, none]) r_1_countState_1 rfl rfl ?_
  refine pw_const r_1_countState_2 ?_
  refine pw_istore (ls' := [some (vR 1 (0)), some (vI (s)), some (vI (0)), some (vI (0)), none]) r_1_countState_3 rfl rfl ?_
  have L4 : ∀ (nF : Nat) (i n : Int), (hi : 0 ≤ i ∧ i ≤ (gF G 1 0 1)) → (hn : n = cnt (fun i => (gF G 3 (i) 8) = s) i) → ((gF G 1 0 1) - i).toNat < nF → PW l w M_X1_countState (d + 0) 4 [some (vR 1 (0)), some (vI (s)), some (vI (n)), some (vI (i)), none] [] G P := by
    intro nF
    induction nF with
    | zero => intro _ _ _ _ hM; exact absurd hM (Nat.not_lt_zero _)
    | succ nF ih4 =>
      intro i n hi hn hM4
      have hcl := cnt_le (fun i => (gF G 3 (i) 8) = s) hi.1
      refine pw_iload r_1_countState_4 rfl ?_
      refine pw_aload r_1_countState_5 rfl ?_
      refine pw_getI r_1_countState_6 fs_1_1 (by decide) ?_
      refine pw_icmp_ge r_1_countState_9 (fun h09 => ?_) (fun h09 => ?_)
      · skip
        refine pw_iload r_1_countState_43 rfl ?_
        refine pw_iret r_1_countState_44 rfl (Nat.le_refl _) ⟨rfl, ?_⟩
        rw [show (gF G 1 0 1) = i by omega] at hP
        exact pe hP (by omega)
      · skip
        refine pw_aload r_1_countState_12 rfl ?_
        refine pw_getR r_1_countState_13 fs_1_0 (by decide) ?_
        refine pw_iload r_1_countState_16 rfl ?_
        refine pw_aaldPv (q := some (3, i)) r_1_countState_17 (by omega) (by omega) (hp i (by omega) (by omega)) ?_
        refine pw_astore (ls' := [some (vR 1 (0)), some (vI (s)), some (vI (n)), some (vI (i)), some (vR 3 (i))]) r_1_countState_18 rfl rfl ?_
        refine pw_aload r_1_countState_20 rfl ?_
        refine pw_ifnull r_1_countState_22 (fun q => by cases q) (fun _ _ => ?_)
        refine pw_aload r_1_countState_25 rfl ?_
        refine pw_getI r_1_countState_27 fs_3_8 (by decide) ?_
        refine pw_iload r_1_countState_30 rfl ?_
        refine pw_icmp_ne r_1_countState_31 (fun h31 => ?_) (fun h31 => ?_)
        · skip
          refine pw_iinc (b := 0) (ls' := [some (vR 1 (0)), some (vI (s)), some (vI (n)), some (vI ((i + 1))), some (vR 3 (i))]) r_1_countState_37 rfl rfl (by omega) rfl ?_
          refine pw_goto r_1_countState_40 ?_
          refine pw_weakL (ls' := [some (vR 1 (0)), some (vI (s)), some (vI (n)), some (vI ((i + 1))), none]) (⟨rfl, ⟨rfl, ⟨rfl, ⟨rfl, trivial⟩⟩⟩⟩) ?_
          exact ih4 ((i + 1)) (n) (by omega) (by first | (rw [cnt_t hi.1 (show (gF G 3 (i) 8) = s by omega)]; omega) | (rw [cnt_f hi.1 (show ¬ ((gF G 3 (i) 8) = s) by omega)]; omega)) (by omega)
        · skip
          refine pw_iinc (b := 0) (ls' := [some (vR 1 (0)), some (vI (s)), some (vI ((n + 1))), some (vI (i)), some (vR 3 (i))]) r_1_countState_34 rfl rfl (by omega) rfl ?_
          refine pw_iinc (b := 0) (ls' := [some (vR 1 (0)), some (vI (s)), some (vI ((n + 1))), some (vI ((i + 1))), some (vR 3 (i))]) r_1_countState_37 rfl rfl (by omega) rfl ?_
          refine pw_goto r_1_countState_40 ?_
          refine pw_weakL (ls' := [some (vR 1 (0)), some (vI (s)), some (vI ((n + 1))), some (vI ((i + 1))), none]) (⟨rfl, ⟨rfl, ⟨rfl, ⟨rfl, trivial⟩⟩⟩⟩) ?_
          exact ih4 ((i + 1)) ((n + 1)) (by omega) (by first | (rw [cnt_t hi.1 (show (gF G 3 (i) 8) = s by omega)]; omega) | (rw [cnt_f hi.1 (show ¬ ((gF G 3 (i) 8) = s) by omega)]; omega)) (by omega)
  exact L4 _ (0) (0) (by omega) (rfl) (Nat.lt_succ_self _)
set_option maxRecDepth 10000 in
theorem sp_X1_countIn {l : Launch} {w : Wo} {d : Nat} {G : PH} {P : Option PV → PH → Prop} {c t : Int} (hp : ∀ i, 0 ≤ i → i < (gF G 1 0 1) → gD G 30 0 i = some (3, i)) (hsz : 0 ≤ (gF G 1 0 1) ∧ (gF G 1 0 1) ≤ 150) (hP : P (some (vI (cnt (fun i => ((gF G 3 (i) 8) = 0 ∧ (gF G 3 (i) 10) = c) ∧ (t = 0 ∨ (gF G 3 (i) 1) = 3)) (gF G 1 0 1)))) G) : PW l w M_X1_countIn (d + 1) 0 [some (vR 1 (0)), some (vI (c)), some (vI (t)), none, none, none] [] G P := by
  refine pw_const r_1_countIn_0 ?_
  refine pw_istore (ls' := [some (vR 1 (0)), some (vI (c)), some (vI (t)), some (vI (0)), none, none]) r_1_countIn_1 rfl rfl ?_
  refine pw_const r_1_countIn_2 ?_
  refine pw_istore (ls' := [some (vR 1 (0)), some (vI (c)), some (vI (t)), some (vI (0)), some (vI (0)), none]) r_1_countIn_3 rfl rfl ?_
  have L5 : ∀ (nF : Nat) (i n : Int), (hi : 0 ≤ i ∧ i ≤ (gF G 1 0 1)) → (hn : n = cnt (fun i => ((gF G 3 (i) 8) = 0 ∧ (gF G 3 (i) 10) = c) ∧ (t = 0 ∨ (gF G 3 (i) 1) = 3)) i) → ((gF G 1 0 1) - i).toNat < nF → PW l w M_X1_countIn (d + 1) 5 [some (vR 1 (0)), some (vI (c)), some (vI (t)), some (vI (n)), some (vI (i)), none] [] G P := by
    intro nF
    induction nF with
    | zero => intro _ _ _ _ hM; exact absurd hM (Nat.not_lt_zero _)
    | succ nF ih5 =>
      intro i n hi hn hM5
      have hcl := cnt_le (fun i => ((gF G 3 (i) 8) = 0 ∧ (gF G 3 (i) 10) = c) ∧ (t = 0 ∨ (gF G 3 (i) 1) = 3)) hi.1
      refine pw_iload r_1_countIn_5 rfl ?_
      refine pw_aload r_1_countIn_7 rfl ?_
      refine pw_getI r_1_countIn_8 fs_1_1 (by decide) ?_
      refine pw_icmp_ge r_1_countIn_11 (fun h11 => ?_) (fun h11 => ?_)
      · skip
        refine pw_iload r_1_countIn_59 rfl ?_
        refine pw_iret r_1_countIn_60 rfl (Nat.le_refl _) ⟨rfl, ?_⟩
        rw [show (gF G 1 0 1) = i by omega] at hP
        exact pe hP (by omega)
      · skip
        refine pw_aload r_1_countIn_14 rfl ?_
        refine pw_getR r_1_countIn_15 fs_1_0 (by decide) ?_
        refine pw_iload r_1_countIn_18 rfl ?_
        refine pw_aaldPv (q := some (3, i)) r_1_countIn_20 (by omega) (by omega) (hp i (by omega) (by omega)) ?_
        refine pw_astore (ls' := [some (vR 1 (0)), some (vI (c)), some (vI (t)), some (vI (n)), some (vI (i)), some (vR 3 (i))]) r_1_countIn_21 rfl rfl ?_
        refine pw_aload r_1_countIn_23 rfl ?_
        refine pw_ifnull r_1_countIn_25 (fun q => by cases q) (fun _ _ => ?_)
        refine pw_aload r_1_countIn_28 rfl ?_
        refine pw_iload r_1_countIn_30 rfl ?_
        refine pw_callV (av := [vI (c)]) (st := []) (ls0 := [some (vR 3 (i)), some (vI (c))]) r_1_countIn_31 rfl rfl rfl (Nat.le_refl _) ?_
        refine sp_X3_isIn  ?_
        refine pw_if_eqB r_1_countIn_34 (fun h34 => ?_) (fun h34 => ?_)
        · skip
          refine pw_iinc (b := 0) (ls' := [some (vR 1 (0)), some (vI (c)), some (vI (t)), some (vI (n)), some (vI ((i + 1))), some (vR 3 (i))]) r_1_countIn_53 rfl rfl (by omega) rfl ?_
          refine pw_goto r_1_countIn_56 ?_
          refine pw_weakL (ls' := [some (vR 1 (0)), some (vI (c)), some (vI (t)), some (vI (n)), some (vI ((i + 1))), none]) (⟨rfl, ⟨rfl, ⟨rfl, ⟨rfl, ⟨rfl, trivial⟩⟩⟩⟩⟩) ?_
          exact ih5 ((i + 1)) (n) (by omega) (by first | (rw [cnt_t hi.1 (show ((gF G 3 (i) 8) = 0 ∧ (gF G 3 (i) 10) = c) ∧ (t = 0 ∨ (gF G 3 (i) 1) = 3) by omega)]; omega) | (rw [cnt_f hi.1 (show ¬ (((gF G 3 (i) 8) = 0 ∧ (gF G 3 (i) 10) = c) ∧ (t = 0 ∨ (gF G 3 (i) 1) = 3)) by omega)]; omega)) (by omega)
        · skip
          refine pw_iload r_1_countIn_37 rfl ?_
          refine pw_if_eq r_1_countIn_38 (fun h38 => ?_) (fun h38 => ?_)
          · skip
            refine pw_iinc (b := 0) (ls' := [some (vR 1 (0)), some (vI (c)), some (vI (t)), some (vI ((n + 1))), some (vI (i)), some (vR 3 (i))]) r_1_countIn_50 rfl rfl (by omega) rfl ?_
            refine pw_iinc (b := 0) (ls' := [some (vR 1 (0)), some (vI (c)), some (vI (t)), some (vI ((n + 1))), some (vI ((i + 1))), some (vR 3 (i))]) r_1_countIn_53 rfl rfl (by omega) rfl ?_
            refine pw_goto r_1_countIn_56 ?_
            refine pw_weakL (ls' := [some (vR 1 (0)), some (vI (c)), some (vI (t)), some (vI ((n + 1))), some (vI ((i + 1))), none]) (⟨rfl, ⟨rfl, ⟨rfl, ⟨rfl, ⟨rfl, trivial⟩⟩⟩⟩⟩) ?_
            exact ih5 ((i + 1)) ((n + 1)) (by omega) (by first | (rw [cnt_t hi.1 (show ((gF G 3 (i) 8) = 0 ∧ (gF G 3 (i) 10) = c) ∧ (t = 0 ∨ (gF G 3 (i) 1) = 3) by omega)]; omega) | (rw [cnt_f hi.1 (show ¬ (((gF G 3 (i) 8) = 0 ∧ (gF G 3 (i) 10) = c) ∧ (t = 0 ∨ (gF G 3 (i) 1) = 3)) by omega)]; omega)) (by omega)
          · skip
            refine pw_aload r_1_countIn_41 rfl ?_
            refine pw_getI r_1_countIn_43 fs_3_1 (by decide) ?_
            refine pw_const r_1_countIn_46 ?_
            refine pw_icmp_ne r_1_countIn_47 (fun h47 => ?_) (fun h47 => ?_)
            · skip
              refine pw_iinc (b := 0) (ls' := [some (vR 1 (0)), some (vI (c)), some (vI (t)), some (vI (n)), some (vI ((i + 1))), some (vR 3 (i))]) r_1_countIn_53 rfl rfl (by omega) rfl ?_
              refine pw_goto r_1_countIn_56 ?_
              refine pw_weakL (ls' := [some (vR 1 (0)), some (vI (c)), some (vI (t)), some (vI (n)), some (vI ((i + 1))), none]) (⟨rfl, ⟨rfl, ⟨rfl, ⟨rfl, ⟨rfl, trivial⟩⟩⟩⟩⟩) ?_
              exact ih5 ((i + 1)) (n) (by omega) (by first | (rw [cnt_t hi.1 (show ((gF G 3 (i) 8) = 0 ∧ (gF G 3 (i) 10) = c) ∧ (t = 0 ∨ (gF G 3 (i) 1) = 3) by omega)]; omega) | (rw [cnt_f hi.1 (show ¬ (((gF G 3 (i) 8) = 0 ∧ (gF G 3 (i) 10) = c) ∧ (t = 0 ∨ (gF G 3 (i) 1) = 3)) by omega)]; omega)) (by omega)
            · skip
              refine pw_iinc (b := 0) (ls' := [some (vR 1 (0)), some (vI (c)), some (vI (t)), some (vI ((n + 1))), some (vI (i)), some (vR 3 (i))]) r_1_countIn_50 rfl rfl (by omega) rfl ?_
              refine pw_iinc (b := 0) (ls' := [some (vR 1 (0)), some (vI (c)), some (vI (t)), some (vI ((n + 1))), some (vI ((i + 1))), some (vR 3 (i))]) r_1_countIn_53 rfl rfl (by omega) rfl ?_
              refine pw_goto r_1_countIn_56 ?_
              refine pw_weakL (ls' := [some (vR 1 (0)), some (vI (c)), some (vI (t)), some (vI ((n + 1))), some (vI ((i + 1))), none]) (⟨rfl, ⟨rfl, ⟨rfl, ⟨rfl, ⟨rfl, trivial⟩⟩⟩⟩⟩) ?_
              exact ih5 ((i + 1)) ((n + 1)) (by omega) (by first | (rw [cnt_t hi.1 (show ((gF G 3 (i) 8) = 0 ∧ (gF G 3 (i) 10) = c) ∧ (t = 0 ∨ (gF G 3 (i) 1) = 3) by omega)]; omega) | (rw [cnt_f hi.1 (show ¬ (((gF G 3 (i) 8) = 0 ∧ (gF G 3 (i) 10) = c) ∧ (t = 0 ∨ (gF G 3 (i) 1) = 3)) by omega)]; omega)) (by omega)
  exact L5 _ (0) (0) (by omega) (rfl) (Nat.lt_succ_self _)
set_option maxRecDepth 10000 in
theorem sp_X1_countGraded {l : Launch} {w : Wo} {d : Nat} {G : PH} {P : Option PV → PH → Prop} {c : Int} (hp : ∀ i, 0 ≤ i → i < (gF G 1 0 1) → gD G 30 0 i = some (3, i)) (hsz : 0 ≤ (gF G 1 0 1) ∧ (gF G 1 0 1) ≤ 150) (hP : P (some (vI (cnt (fun i => ((gF G 3 (i) 8) = 0 ∧ (gF G 3 (i) 10) = c) ∧ 0 < (gF G 3 (i) 6)) (gF G 1 0 1)))) G) : PW l w M_X1_countGraded (d + 1) 0 [some (vR 1 (0)), some (vI (c)), none, none, none] [] G P := by
  refine pw_const r_1_countGraded_0 ?_
  refine pw_istore (ls' := [some (vR 1 (0)), some (vI (c)), some (vI (0)), none, none]) r_1_countGraded_1 rfl rfl ?_
  refine pw_const r_1_countGraded_2 ?_
  refine pw_istore (ls' := [some (vR 1 (0)), some (vI (c)), some (vI (0)), some (vI (0)), none]) r_1_countGraded_3 rfl rfl ?_
  have L4 : ∀ (nF : Nat) (i n : Int), (hi : 0 ≤ i ∧ i ≤ (gF G 1 0 1)) → (hn : n = cnt (fun i => ((gF G 3 (i) 8) = 0 ∧ (gF G 3 (i) 10) = c) ∧ 0 < (gF G 3 (i) 6)) i) → ((gF G 1 0 1) - i).toNat < nF → PW l w M_X1_countGraded (d + 1) 4 [some (vR 1 (0)), some (vI (c)), some (vI (n)), some (vI (i)), none] [] G P := by
    intro nF
    induction nF with
    | zero => intro _ _ _ _ hM; exact absurd hM (Nat.not_lt_zero _)
    | succ nF ih4 =>
      intro i n hi hn hM4
      have hcl := cnt_le (fun i => ((gF G 3 (i) 8) = 0 ∧ (gF G 3 (i) 10) = c) ∧ 0 < (gF G 3 (i) 6)) hi.1
      refine pw_iload r_1_countGraded_4 rfl ?_
      refine pw_aload r_1_countGraded_5 rfl ?_
      refine pw_getI r_1_countGraded_6 fs_1_1 (by decide) ?_
      refine pw_icmp_ge r_1_countGraded_9 (fun h09 => ?_) (fun h09 => ?_)
      · skip
        refine pw_iload r_1_countGraded_51 rfl ?_
        refine pw_iret r_1_countGraded_52 rfl (Nat.le_refl _) ⟨rfl, ?_⟩
        rw [show (gF G 1 0 1) = i by omega] at hP
        exact pe hP (by omega)
      · skip
        refine pw_aload r_1_countGraded_12 rfl ?_
        refine pw_getR r_1_countGraded_13 fs_1_0 (by decide) ?_
        refine pw_iload r_1_countGraded_16 rfl ?_
        refine pw_aaldPv (q := some (3, i)) r_1_countGraded_17 (by omega) (by omega) (hp i (by omega) (by omega)) ?_
        refine pw_astore (ls' := [some (vR 1 (0)), some (vI (c)), some (vI (n)), some (vI (i)), some (vR 3 (i))]) r_1_countGraded_18 rfl rfl ?_
        refine pw_aload r_1_countGraded_20 rfl ?_
        refine pw_ifnull r_1_countGraded_22 (fun q => by cases q) (fun _ _ => ?_)
        refine pw_aload r_1_countGraded_25 rfl ?_
        refine pw_iload r_1_countGraded_27 rfl ?_
        refine pw_callV (av := [vI (c)]) (st := []) (ls0 := [some (vR 3 (i)), some (vI (c))]) r_1_countGraded_28 rfl rfl rfl (Nat.le_refl _) ?_
        refine sp_X3_isIn  ?_
        refine pw_if_eqB r_1_countGraded_31 (fun h31 => ?_) (fun h31 => ?_)
        · skip
          refine pw_iinc (b := 0) (ls' := [some (vR 1 (0)), some (vI (c)), some (vI (n)), some (vI ((i + 1))), some (vR 3 (i))]) r_1_countGraded_45 rfl rfl (by omega) rfl ?_
          refine pw_goto r_1_countGraded_48 ?_
          refine pw_weakL (ls' := [some (vR 1 (0)), some (vI (c)), some (vI (n)), some (vI ((i + 1))), none]) (⟨rfl, ⟨rfl, ⟨rfl, ⟨rfl, trivial⟩⟩⟩⟩) ?_
          exact ih4 ((i + 1)) (n) (by omega) (by first | (rw [cnt_t hi.1 (show ((gF G 3 (i) 8) = 0 ∧ (gF G 3 (i) 10) = c) ∧ 0 < (gF G 3 (i) 6) by omega)]; omega) | (rw [cnt_f hi.1 (show ¬ (((gF G 3 (i) 8) = 0 ∧ (gF G 3 (i) 10) = c) ∧ 0 < (gF G 3 (i) 6)) by omega)]; omega)) (by omega)
        · skip
          refine pw_aload r_1_countGraded_34 rfl ?_
          refine pw_getI r_1_countGraded_36 fs_3_6 (by decide) ?_
          refine pw_if_le r_1_countGraded_39 (fun h39 => ?_) (fun h39 => ?_)
          · skip
            refine pw_iinc (b := 0) (ls' := [some (vR 1 (0)), some (vI (c)), some (vI (n)), some (vI ((i + 1))), some (vR 3 (i))]) r_1_countGraded_45 rfl rfl (by omega) rfl ?_
            refine pw_goto r_1_countGraded_48 ?_
            refine pw_weakL (ls' := [some (vR 1 (0)), some (vI (c)), some (vI (n)), some (vI ((i + 1))), none]) (⟨rfl, ⟨rfl, ⟨rfl, ⟨rfl, trivial⟩⟩⟩⟩) ?_
            exact ih4 ((i + 1)) (n) (by omega) (by first | (rw [cnt_t hi.1 (show ((gF G 3 (i) 8) = 0 ∧ (gF G 3 (i) 10) = c) ∧ 0 < (gF G 3 (i) 6) by omega)]; omega) | (rw [cnt_f hi.1 (show ¬ (((gF G 3 (i) 8) = 0 ∧ (gF G 3 (i) 10) = c) ∧ 0 < (gF G 3 (i) 6)) by omega)]; omega)) (by omega)
          · skip
            refine pw_iinc (b := 0) (ls' := [some (vR 1 (0)), some (vI (c)), some (vI ((n + 1))), some (vI (i)), some (vR 3 (i))]) r_1_countGraded_42 rfl rfl (by omega) rfl ?_
            refine pw_iinc (b := 0) (ls' := [some (vR 1 (0)), some (vI (c)), some (vI ((n + 1))), some (vI ((i + 1))), some (vR 3 (i))]) r_1_countGraded_45 rfl rfl (by omega) rfl ?_
            refine pw_goto r_1_countGraded_48 ?_
            refine pw_weakL (ls' := [some (vR 1 (0)), some (vI (c)), some (vI ((n + 1))), some (vI ((i + 1))), none]) (⟨rfl, ⟨rfl, ⟨rfl, ⟨rfl, trivial⟩⟩⟩⟩) ?_
            exact ih4 ((i + 1)) ((n + 1)) (by omega) (by first | (rw [cnt_t hi.1 (show ((gF G 3 (i) 8) = 0 ∧ (gF G 3 (i) 10) = c) ∧ 0 < (gF G 3 (i) 6) by omega)]; omega) | (rw [cnt_f hi.1 (show ¬ (((gF G 3 (i) 8) = 0 ∧ (gF G 3 (i) 10) = c) ∧ 0 < (gF G 3 (i) 6)) by omega)]; omega)) (by omega)
  exact L4 _ (0) (0) (by omega) (rfl) (Nat.lt_succ_self _)
set_option maxRecDepth 10000 in
theorem sp_X1_countHandedOver {l : Launch} {w : Wo} {d : Nat} {G : PH} {P : Option PV → PH → Prop} {s a b : Int} (hp : ∀ i, 0 ≤ i → i < (gF G 1 0 1) → gD G 30 0 i = some (3, i)) (hsz : 0 ≤ (gF G 1 0 1) ∧ (gF G 1 0 1) ≤ 150) (hP : P (some (vI (cnt (fun i => ((gF G 3 (i) 2) = s ∧ (gF G 3 (i) 8) = 5) ∧ a ≤ (gF G 3 (i) 9) ∧ (gF G 3 (i) 9) ≤ b) (gF G 1 0 1)))) G) : PW l w M_X1_countHandedOver (d + 0) 0 [some (vR 1 (0)), some (vI (s)), some (vI (a)), some (vI (b)), none, none, none, none] [] G P := by
  refine pw_const r_1_countHandedOver_0 ?_
  refine pw_istore (ls' := [some (vR 1 (0)), some (vI (s)), some (vI (a)), some (vI (b)), some (vI (0)), none, none, none]) r_1_countHandedOver_1 rfl rfl ?_
  refine pw_const r_1_countHandedOver_3 ?_
  refine pw_istore (ls' := [some (vR 1 (0)), some (vI (s)), some (vI (a)), some (vI (b)), some (vI (0)), some (vI (0)), none, none]) r_1_countHandedOver_4 rfl rfl ?_
  have L6 : ∀ (nF : Nat) (i n : Int), (hi : 0 ≤ i ∧ i ≤ (gF G 1 0 1)) → (hn : n = cnt (fun i => ((gF G 3 (i) 2) = s ∧ (gF G 3 (i) 8) = 5) ∧ a ≤ (gF G 3 (i) 9) ∧ (gF G 3 (i) 9) ≤ b) i) → ((gF G 1 0 1) - i).toNat < nF → PW l w M_X1_countHandedOver (d + 0) 6 [some (vR 1 (0)), some (vI (s)), some (vI (a)), some (vI (b)), some (vI (n)), some (vI (i)), none, none] [] G P := by
    intro nF
    induction nF with
    | zero => intro _ _ _ _ hM; exact absurd hM (Nat.not_lt_zero _)
    | succ nF ih6 =>
      intro i n hi hn hM6
      have hcl := cnt_le (fun i => ((gF G 3 (i) 2) = s ∧ (gF G 3 (i) 8) = 5) ∧ a ≤ (gF G 3 (i) 9) ∧ (gF G 3 (i) 9) ≤ b) hi.1
      refine pw_iload r_1_countHandedOver_6 rfl ?_
      refine pw_aload r_1_countHandedOver_8 rfl ?_
      refine pw_getI r_1_countHandedOver_9 fs_1_1 (by decide) ?_
      refine pw_icmp_ge r_1_countHandedOver_12 (fun h12 => ?_) (fun h12 => ?_)
      · skip
        refine pw_iload r_1_countHandedOver_86 rfl ?_
        refine pw_iret r_1_countHandedOver_88 rfl (Nat.le_refl _) ⟨rfl, ?_⟩
        rw [show (gF G 1 0 1) = i by omega] at hP
        exact pe hP (by omega)
      · skip
        refine pw_aload r_1_countHandedOver_15 rfl ?_
        refine pw_getR r_1_countHandedOver_16 fs_1_0 (by decide) ?_
        refine pw_iload r_1_countHandedOver_19 rfl ?_
        refine pw_aaldPv (q := some (3, i)) r_1_countHandedOver_21 (by omega) (by omega) (hp i (by omega) (by omega)) ?_
        refine pw_astore (ls' := [some (vR 1 (0)), some (vI (s)), some (vI (a)), some (vI (b)), some (vI (n)), some (vI (i)), some (vR 3 (i)), none]) r_1_countHandedOver_22 rfl rfl ?_
        refine pw_aload r_1_countHandedOver_24 rfl ?_
        refine pw_ifnull r_1_countHandedOver_26 (fun q => by cases q) (fun _ _ => ?_)
        refine pw_aload r_1_countHandedOver_29 rfl ?_
        refine pw_getI r_1_countHandedOver_31 fs_3_2 (by decide) ?_
        refine pw_iload r_1_countHandedOver_34 rfl ?_
        refine pw_icmp_ne r_1_countHandedOver_35 (fun h35 => ?_) (fun h35 => ?_)
        · skip
          refine pw_const r_1_countHandedOver_51 ?_
          refine pw_istore (ls' := [some (vR 1 (0)), some (vI (s)), some (vI (a)), some (vI (b)), some (vI (n)), some (vI (i)), some (vR 3 (i)), some (vI (0))]) r_1_countHandedOver_52 rfl rfl ?_
          refine pw_iload r_1_countHandedOver_54 rfl ?_
          refine pw_if_eq r_1_countHandedOver_56 (fun h56 => ?_) (fun h56 => ?_)
          · skip
            refine pw_iinc (b := 0) (ls' := [some (vR 1 (0)), some (vI (s)), some (vI (a)), some (vI (b)), some (vI (n)), some (vI ((i + 1))), some (vR 3 (i)), some (vI (0))]) r_1_countHandedOver_80 rfl rfl (by omega) rfl ?_
            refine pw_goto r_1_countHandedOver_83 ?_
            refine pw_weakL (ls' := [some (vR 1 (0)), some (vI (s)), some (vI (a)), some (vI (b)), some (vI (n)), some (vI ((i + 1))), none, none]) (⟨rfl, ⟨rfl, ⟨rfl, ⟨rfl, ⟨rfl, ⟨rfl, trivial⟩⟩⟩⟩⟩⟩) ?_
            exact ih6 ((i + 1)) (n) (by omega) (by first | (rw [cnt_t hi.1 (show ((gF G 3 (i) 2) = s ∧ (gF G 3 (i) 8) = 5) ∧ a ≤ (gF G 3 (i) 9) ∧ (gF G 3 (i) 9) ≤ b by omega)]; omega) | (rw [cnt_f hi.1 (show ¬ (((gF G 3 (i) 2) = s ∧ (gF G 3 (i) 8) = 5) ∧ a ≤ (gF G 3 (i) 9) ∧ (gF G 3 (i) 9) ≤ b) by omega)]; omega)) (by omega)
          · skip
            refine pw_aload r_1_countHandedOver_59 rfl ?_
            refine pw_getI r_1_countHandedOver_61 fs_3_9 (by decide) ?_
            refine pw_iload r_1_countHandedOver_64 rfl ?_
            refine pw_icmp_lt r_1_countHandedOver_65 (fun h65 => ?_) (fun h65 => ?_)
            · skip
              refine pw_iinc (b := 0) (ls' := [some (vR 1 (0)), some (vI (s)), some (vI (a)), some (vI (b)), some (vI (n)), some (vI ((i + 1))), some (vR 3 (i)), some (vI (0))]) r_1_countHandedOver_80 rfl rfl (by omega) rfl ?_
              refine pw_goto r_1_countHandedOver_83 ?_
              refine pw_weakL (ls' := [some (vR 1 (0)), some (vI (s)), some (vI (a)), some (vI (b)), some (vI (n)), some (vI ((i + 1))), none, none]) (⟨rfl, ⟨rfl, ⟨rfl, ⟨rfl, ⟨rfl, ⟨rfl, trivial⟩⟩⟩⟩⟩⟩) ?_
              exact ih6 ((i + 1)) (n) (by omega) (by first | (rw [cnt_t hi.1 (show ((gF G 3 (i) 2) = s ∧ (gF G 3 (i) 8) = 5) ∧ a ≤ (gF G 3 (i) 9) ∧ (gF G 3 (i) 9) ≤ b by omega)]; omega) | (rw [cnt_f hi.1 (show ¬ (((gF G 3 (i) 2) = s ∧ (gF G 3 (i) 8) = 5) ∧ a ≤ (gF G 3 (i) 9) ∧ (gF G 3 (i) 9) ≤ b) by omega)]; omega)) (by omega)
            · skip
              refine pw_aload r_1_countHandedOver_68 rfl ?_
              refine pw_getI r_1_countHandedOver_70 fs_3_9 (by decide) ?_
              refine pw_iload r_1_countHandedOver_73 rfl ?_
              refine pw_icmp_gt r_1_countHandedOver_74 (fun h74 => ?_) (fun h74 => ?_)
              · skip
                refine pw_iinc (b := 0) (ls' := [some (vR 1 (0)), some (vI (s)), some (vI (a)), some (vI (b)), some (vI (n)), some (vI ((i + 1))), some (vR 3 (i)), some (vI (0))]) r_1_countHandedOver_80 rfl rfl (by omega) rfl ?_
                refine pw_goto r_1_countHandedOver_83 ?_
                refine pw_weakL (ls' := [some (vR 1 (0)), some (vI (s)), some (vI (a)), some (vI (b)), some (vI (n)), some (vI ((i + 1))), none, none]) (⟨rfl, ⟨rfl, ⟨rfl, ⟨rfl, ⟨rfl, ⟨rfl, trivial⟩⟩⟩⟩⟩⟩) ?_
                exact ih6 ((i + 1)) (n) (by omega) (by first | (rw [cnt_t hi.1 (show ((gF G 3 (i) 2) = s ∧ (gF G 3 (i) 8) = 5) ∧ a ≤ (gF G 3 (i) 9) ∧ (gF G 3 (i) 9) ≤ b by omega)]; omega) | (rw [cnt_f hi.1 (show ¬ (((gF G 3 (i) 2) = s ∧ (gF G 3 (i) 8) = 5) ∧ a ≤ (gF G 3 (i) 9) ∧ (gF G 3 (i) 9) ≤ b) by omega)]; omega)) (by omega)
              · skip
                refine pw_iinc (b := 0) (ls' := [some (vR 1 (0)), some (vI (s)), some (vI (a)), some (vI (b)), some (vI ((n + 1))), some (vI (i)), some (vR 3 (i)), some (vI (0))]) r_1_countHandedOver_77 rfl rfl (by omega) rfl ?_
                refine pw_iinc (b := 0) (ls' := [some (vR 1 (0)), some (vI (s)), some (vI (a)), some (vI (b)), some (vI ((n + 1))), some (vI ((i + 1))), some (vR 3 (i)), some (vI (0))]) r_1_countHandedOver_80 rfl rfl (by omega) rfl ?_
                refine pw_goto r_1_countHandedOver_83 ?_
                refine pw_weakL (ls' := [some (vR 1 (0)), some (vI (s)), some (vI (a)), some (vI (b)), some (vI ((n + 1))), some (vI ((i + 1))), none, none]) (⟨rfl, ⟨rfl, ⟨rfl, ⟨rfl, ⟨rfl, ⟨rfl, trivial⟩⟩⟩⟩⟩⟩) ?_
                exact ih6 ((i + 1)) ((n + 1)) (by omega) (by first | (rw [cnt_t hi.1 (show ((gF G 3 (i) 2) = s ∧ (gF G 3 (i) 8) = 5) ∧ a ≤ (gF G 3 (i) 9) ∧ (gF G 3 (i) 9) ≤ b by omega)]; omega) | (rw [cnt_f hi.1 (show ¬ (((gF G 3 (i) 2) = s ∧ (gF G 3 (i) 8) = 5) ∧ a ≤ (gF G 3 (i) 9) ∧ (gF G 3 (i) 9) ≤ b) by omega)]; omega)) (by omega)
        · skip
          refine pw_aload r_1_countHandedOver_38 rfl ?_
          refine pw_getI r_1_countHandedOver_40 fs_3_8 (by decide) ?_
          refine pw_const r_1_countHandedOver_43 ?_
          refine pw_icmp_ne r_1_countHandedOver_44 (fun h44 => ?_) (fun h44 => ?_)
          · skip
            refine pw_const r_1_countHandedOver_51 ?_
            refine pw_istore (ls' := [some (vR 1 (0)), some (vI (s)), some (vI (a)), some (vI (b)), some (vI (n)), some (vI (i)), some (vR 3 (i)), some (vI (0))]) r_1_countHandedOver_52 rfl rfl ?_
            refine pw_iload r_1_countHandedOver_54 rfl ?_
            refine pw_if_eq r_1_countHandedOver_56 (fun h56 => ?_) (fun h56 => ?_)
            · skip
              refine pw_iinc (b := 0) (ls' := [some (vR 1 (0)), some (vI (s)), some (vI (a)), some (vI (b)), some (vI (n)), some (vI ((i + 1))), some (vR 3 (i)), some (vI (0))]) r_1_countHandedOver_80 rfl rfl (by omega) rfl ?_
              refine pw_goto r_1_countHandedOver_83 ?_
              refine pw_weakL (ls' := [some (vR 1 (0)), some (vI (s)), some (vI (a)), some (vI (b)), some (vI (n)), some (vI ((i + 1))), none, none]) (⟨rfl, ⟨rfl, ⟨rfl, ⟨rfl, ⟨rfl, ⟨rfl, trivial⟩⟩⟩⟩⟩⟩) ?_
              exact ih6 ((i + 1)) (n) (by omega) (by first | (rw [cnt_t hi.1 (show ((gF G 3 (i) 2) = s ∧ (gF G 3 (i) 8) = 5) ∧ a ≤ (gF G 3 (i) 9) ∧ (gF G 3 (i) 9) ≤ b by omega)]; omega) | (rw [cnt_f hi.1 (show ¬ (((gF G 3 (i) 2) = s ∧ (gF G 3 (i) 8) = 5) ∧ a ≤ (gF G 3 (i) 9) ∧ (gF G 3 (i) 9) ≤ b) by omega)]; omega)) (by omega)
            · skip
              refine pw_aload r_1_countHandedOver_59 rfl ?_
              refine pw_getI r_1_countHandedOver_61 fs_3_9 (by decide) ?_
              refine pw_iload r_1_countHandedOver_64 rfl ?_
              refine pw_icmp_lt r_1_countHandedOver_65 (fun h65 => ?_) (fun h65 => ?_)
              · skip
                refine pw_iinc (b := 0) (ls' := [some (vR 1 (0)), some (vI (s)), some (vI (a)), some (vI (b)), some (vI (n)), some (vI ((i + 1))), some (vR 3 (i)), some (vI (0))]) r_1_countHandedOver_80 rfl rfl (by omega) rfl ?_
                refine pw_goto r_1_countHandedOver_83 ?_
                refine pw_weakL (ls' := [some (vR 1 (0)), some (vI (s)), some (vI (a)), some (vI (b)), some (vI (n)), some (vI ((i + 1))), none, none]) (⟨rfl, ⟨rfl, ⟨rfl, ⟨rfl, ⟨rfl, ⟨rfl, trivial⟩⟩⟩⟩⟩⟩) ?_
                exact ih6 ((i + 1)) (n) (by omega) (by first | (rw [cnt_t hi.1 (show ((gF G 3 (i) 2) = s ∧ (gF G 3 (i) 8) = 5) ∧ a ≤ (gF G 3 (i) 9) ∧ (gF G 3 (i) 9) ≤ b by omega)]; omega) | (rw [cnt_f hi.1 (show ¬ (((gF G 3 (i) 2) = s ∧ (gF G 3 (i) 8) = 5) ∧ a ≤ (gF G 3 (i) 9) ∧ (gF G 3 (i) 9) ≤ b) by omega)]; omega)) (by omega)
              · skip
                refine pw_aload r_1_countHandedOver_68 rfl ?_
                refine pw_getI r_1_countHandedOver_70 fs_3_9 (by decide) ?_
                refine pw_iload r_1_countHandedOver_73 rfl ?_
                refine pw_icmp_gt r_1_countHandedOver_74 (fun h74 => ?_) (fun h74 => ?_)
                · skip
                  refine pw_iinc (b := 0) (ls' := [some (vR 1 (0)), some (vI (s)), some (vI (a)), some (vI (b)), some (vI (n)), some (vI ((i + 1))), some (vR 3 (i)), some (vI (0))]) r_1_countHandedOver_80 rfl rfl (by omega) rfl ?_
                  refine pw_goto r_1_countHandedOver_83 ?_
                  refine pw_weakL (ls' := [some (vR 1 (0)), some (vI (s)), some (vI (a)), some (vI (b)), some (vI (n)), some (vI ((i + 1))), none, none]) (⟨rfl, ⟨rfl, ⟨rfl, ⟨rfl, ⟨rfl, ⟨rfl, trivial⟩⟩⟩⟩⟩⟩) ?_
                  exact ih6 ((i + 1)) (n) (by omega) (by first | (rw [cnt_t hi.1 (show ((gF G 3 (i) 2) = s ∧ (gF G 3 (i) 8) = 5) ∧ a ≤ (gF G 3 (i) 9) ∧ (gF G 3 (i) 9) ≤ b by omega)]; omega) | (rw [cnt_f hi.1 (show ¬ (((gF G 3 (i) 2) = s ∧ (gF G 3 (i) 8) = 5) ∧ a ≤ (gF G 3 (i) 9) ∧ (gF G 3 (i) 9) ≤ b) by omega)]; omega)) (by omega)
                · skip
                  refine pw_iinc (b := 0) (ls' := [some (vR 1 (0)), some (vI (s)), some (vI (a)), some (vI (b)), some (vI ((n + 1))), some (vI (i)), some (vR 3 (i)), some (vI (0))]) r_1_countHandedOver_77 rfl rfl (by omega) rfl ?_
                  refine pw_iinc (b := 0) (ls' := [some (vR 1 (0)), some (vI (s)), some (vI (a)), some (vI (b)), some (vI ((n + 1))), some (vI ((i + 1))), some (vR 3 (i)), some (vI (0))]) r_1_countHandedOver_80 rfl rfl (by omega) rfl ?_
                  refine pw_goto r_1_countHandedOver_83 ?_
                  refine pw_weakL (ls' := [some (vR 1 (0)), some (vI (s)), some (vI (a)), some (vI (b)), some (vI ((n + 1))), some (vI ((i + 1))), none, none]) (⟨rfl, ⟨rfl, ⟨rfl, ⟨rfl, ⟨rfl, ⟨rfl, trivial⟩⟩⟩⟩⟩⟩) ?_
                  exact ih6 ((i + 1)) ((n + 1)) (by omega) (by first | (rw [cnt_t hi.1 (show ((gF G 3 (i) 2) = s ∧ (gF G 3 (i) 8) = 5) ∧ a ≤ (gF G 3 (i) 9) ∧ (gF G 3 (i) 9) ≤ b by omega)]; omega) | (rw [cnt_f hi.1 (show ¬ (((gF G 3 (i) 2) = s ∧ (gF G 3 (i) 8) = 5) ∧ a ≤ (gF G 3 (i) 9) ∧ (gF G 3 (i) 9) ≤ b) by omega)]; omega)) (by omega)
          · skip
            refine pw_const r_1_countHandedOver_47 ?_
            refine pw_goto r_1_countHandedOver_48 ?_
            refine pw_istore (ls' := [some (vR 1 (0)), some (vI (s)), some (vI (a)), some (vI (b)), some (vI (n)), some (vI (i)), some (vR 3 (i)), some (vI (1))]) r_1_countHandedOver_52 rfl rfl ?_
            refine pw_iload r_1_countHandedOver_54 rfl ?_
            refine pw_if_eq r_1_countHandedOver_56 (fun h56 => ?_) (fun h56 => ?_)
            · skip
              refine pw_iinc (b := 0) (ls' := [some (vR 1 (0)), some (vI (s)), some (vI (a)), some (vI (b)), some (vI (n)), some (vI ((i + 1))), some (vR 3 (i)), some (vI (1))]) r_1_countHandedOver_80 rfl rfl (by omega) rfl ?_
              refine pw_goto r_1_countHandedOver_83 ?_
              refine pw_weakL (ls' := [some (vR 1 (0)), some (vI (s)), some (vI (a)), some (vI (b)), some (vI (n)), some (vI ((i + 1))), none, none]) (⟨rfl, ⟨rfl, ⟨rfl, ⟨rfl, ⟨rfl, ⟨rfl, trivial⟩⟩⟩⟩⟩⟩) ?_
              exact ih6 ((i + 1)) (n) (by omega) (by first | (rw [cnt_t hi.1 (show ((gF G 3 (i) 2) = s ∧ (gF G 3 (i) 8) = 5) ∧ a ≤ (gF G 3 (i) 9) ∧ (gF G 3 (i) 9) ≤ b by omega)]; omega) | (rw [cnt_f hi.1 (show ¬ (((gF G 3 (i) 2) = s ∧ (gF G 3 (i) 8) = 5) ∧ a ≤ (gF G 3 (i) 9) ∧ (gF G 3 (i) 9) ≤ b) by omega)]; omega)) (by omega)
            · skip
              refine pw_aload r_1_countHandedOver_59 rfl ?_
              refine pw_getI r_1_countHandedOver_61 fs_3_9 (by decide) ?_
              refine pw_iload r_1_countHandedOver_64 rfl ?_
              refine pw_icmp_lt r_1_countHandedOver_65 (fun h65 => ?_) (fun h65 => ?_)
              · skip
                refine pw_iinc (b := 0) (ls' := [some (vR 1 (0)), some (vI (s)), some (vI (a)), some (vI (b)), some (vI (n)), some (vI ((i + 1))), some (vR 3 (i)), some (vI (1))]) r_1_countHandedOver_80 rfl rfl (by omega) rfl ?_
                refine pw_goto r_1_countHandedOver_83 ?_
                refine pw_weakL (ls' := [some (vR 1 (0)), some (vI (s)), some (vI (a)), some (vI (b)), some (vI (n)), some (vI ((i + 1))), none, none]) (⟨rfl, ⟨rfl, ⟨rfl, ⟨rfl, ⟨rfl, ⟨rfl, trivial⟩⟩⟩⟩⟩⟩) ?_
                exact ih6 ((i + 1)) (n) (by omega) (by first | (rw [cnt_t hi.1 (show ((gF G 3 (i) 2) = s ∧ (gF G 3 (i) 8) = 5) ∧ a ≤ (gF G 3 (i) 9) ∧ (gF G 3 (i) 9) ≤ b by omega)]; omega) | (rw [cnt_f hi.1 (show ¬ (((gF G 3 (i) 2) = s ∧ (gF G 3 (i) 8) = 5) ∧ a ≤ (gF G 3 (i) 9) ∧ (gF G 3 (i) 9) ≤ b) by omega)]; omega)) (by omega)
              · skip
                refine pw_aload r_1_countHandedOver_68 rfl ?_
                refine pw_getI r_1_countHandedOver_70 fs_3_9 (by decide) ?_
                refine pw_iload r_1_countHandedOver_73 rfl ?_
                refine pw_icmp_gt r_1_countHandedOver_74 (fun h74 => ?_) (fun h74 => ?_)
                · skip
                  refine pw_iinc (b := 0) (ls' := [some (vR 1 (0)), some (vI (s)), some (vI (a)), some (vI (b)), some (vI (n)), some (vI ((i + 1))), some (vR 3 (i)), some (vI (1))]) r_1_countHandedOver_80 rfl rfl (by omega) rfl ?_
                  refine pw_goto r_1_countHandedOver_83 ?_
                  refine pw_weakL (ls' := [some (vR 1 (0)), some (vI (s)), some (vI (a)), some (vI (b)), some (vI (n)), some (vI ((i + 1))), none, none]) (⟨rfl, ⟨rfl, ⟨rfl, ⟨rfl, ⟨rfl, ⟨rfl, trivial⟩⟩⟩⟩⟩⟩) ?_
                  exact ih6 ((i + 1)) (n) (by omega) (by first | (rw [cnt_t hi.1 (show ((gF G 3 (i) 2) = s ∧ (gF G 3 (i) 8) = 5) ∧ a ≤ (gF G 3 (i) 9) ∧ (gF G 3 (i) 9) ≤ b by omega)]; omega) | (rw [cnt_f hi.1 (show ¬ (((gF G 3 (i) 2) = s ∧ (gF G 3 (i) 8) = 5) ∧ a ≤ (gF G 3 (i) 9) ∧ (gF G 3 (i) 9) ≤ b) by omega)]; omega)) (by omega)
                · skip
                  refine pw_iinc (b := 0) (ls' := [some (vR 1 (0)), some (vI (s)), some (vI (a)), some (vI (b)), some (vI ((n + 1))), some (vI (i)), some (vR 3 (i)), some (vI (1))]) r_1_countHandedOver_77 rfl rfl (by omega) rfl ?_
                  refine pw_iinc (b := 0) (ls' := [some (vR 1 (0)), some (vI (s)), some (vI (a)), some (vI (b)), some (vI ((n + 1))), some (vI ((i + 1))), some (vR 3 (i)), some (vI (1))]) r_1_countHandedOver_80 rfl rfl (by omega) rfl ?_
                  refine pw_goto r_1_countHandedOver_83 ?_
                  refine pw_weakL (ls' := [some (vR 1 (0)), some (vI (s)), some (vI (a)), some (vI (b)), some (vI ((n + 1))), some (vI ((i + 1))), none, none]) (⟨rfl, ⟨rfl, ⟨rfl, ⟨rfl, ⟨rfl, ⟨rfl, trivial⟩⟩⟩⟩⟩⟩) ?_
                  exact ih6 ((i + 1)) ((n + 1)) (by omega) (by first | (rw [cnt_t hi.1 (show ((gF G 3 (i) 2) = s ∧ (gF G 3 (i) 8) = 5) ∧ a ≤ (gF G 3 (i) 9) ∧ (gF G 3 (i) 9) ≤ b by omega)]; omega) | (rw [cnt_f hi.1 (show ¬ (((gF G 3 (i) 2) = s ∧ (gF G 3 (i) 8) = 5) ∧ a ≤ (gF G 3 (i) 9) ∧ (gF G 3 (i) 9) ≤ b) by omega)]; omega)) (by omega)
  exact L6 _ (0) (0) (by omega) (rfl) (Nat.lt_succ_self _)
set_option maxRecDepth 10000 in
theorem sp_X1_countStays {l : Launch} {w : Wo} {d : Nat} {G : PH} {P : Option PV → PH → Prop} {p : Int} (hst : 0 ≤ (gF G 1 0 3) ∧ (gF G 1 0 3) ≤ 400) (hP : P (some (vI (cnt (fun i => (gA G 32 0 (i)) = p) (gF G 1 0 3)))) G) : PW l w M_X1_countStays (d + 0) 0 [some (vR 1 (0)), some (vI (p)), none, none] [] G P := by
  refine pw_const r_1_countStays_0 ?_
  refine pw_istore (ls' := [some (vR 1 (0)), some (vI (p)), some (vI (0)), none]) r_1_countStays_1 rfl rfl ?_
  refine pw_const r_1_countStays_2 ?_
  refine pw_istore (ls' := [some (vR 1 (0)), some (vI (p)), some (vI (0)), some (vI (0))]) r_1_countStays_3 rfl rfl ?_
  have L4 : ∀ (nF : Nat) (i n : Int), (hi : 0 ≤ i ∧ i ≤ (gF G 1 0 3)) → (hn : n = cnt (fun i => (gA G 32 0 (i)) = p) i) → ((gF G 1 0 3) - i).toNat < nF → PW l w M_X1_countStays (d + 0) 4 [some (vR 1 (0)), some (vI (p)), some (vI (n)), some (vI (i))] [] G P := by
    intro nF
    induction nF with
    | zero => intro _ _ _ _ hM; exact absurd hM (Nat.not_lt_zero _)
    | succ nF ih4 =>
      intro i n hi hn hM4
      have hcl := cnt_le (fun i => (gA G 32 0 (i)) = p) hi.1
      refine pw_iload r_1_countStays_4 rfl ?_
      refine pw_aload r_1_countStays_5 rfl ?_
      refine pw_getI r_1_countStays_6 fs_1_3 (by decide) ?_
      refine pw_icmp_ge r_1_countStays_9 (fun h09 => ?_) (fun h09 => ?_)
      · skip
        refine pw_iload r_1_countStays_31 rfl ?_
        refine pw_iret r_1_countStays_32 rfl (Nat.le_refl _) ⟨rfl, ?_⟩
        rw [show (gF G 1 0 3) = i by omega] at hP
        exact pe hP (by omega)
      · skip
        refine pw_aload r_1_countStays_12 rfl ?_
        refine pw_getR r_1_countStays_13 fs_1_6 (by decide) ?_
        refine pw_iload r_1_countStays_16 rfl ?_
        refine pw_iald r_1_countStays_17 sh32 (by omega) (by omega) ?_
        refine pw_iload r_1_countStays_18 rfl ?_
        refine pw_icmp_ne r_1_countStays_19 (fun h19 => ?_) (fun h19 => ?_)
        · skip
          refine pw_iinc (b := 0) (ls' := [some (vR 1 (0)), some (vI (p)), some (vI (n)), some (vI ((i + 1)))]) r_1_countStays_25 rfl rfl (by omega) rfl ?_
          refine pw_goto r_1_countStays_28 ?_
          exact ih4 ((i + 1)) (n) (by omega) (by first | (rw [cnt_t hi.1 (show (gA G 32 0 (i)) = p by omega)]; omega) | (rw [cnt_f hi.1 (show ¬ ((gA G 32 0 (i)) = p) by omega)]; omega)) (by omega)
        · skip
          refine pw_iinc (b := 0) (ls' := [some (vR 1 (0)), some (vI (p)), some (vI ((n + 1))), some (vI (i))]) r_1_countStays_22 rfl rfl (by omega) rfl ?_
          refine pw_iinc (b := 0) (ls' := [some (vR 1 (0)), some (vI (p)), some (vI ((n + 1))), some (vI ((i + 1)))]) r_1_countStays_25 rfl rfl (by omega) rfl ?_
          refine pw_goto r_1_countStays_28 ?_
          exact ih4 ((i + 1)) ((n + 1)) (by omega) (by first | (rw [cnt_t hi.1 (show (gA G 32 0 (i)) = p by omega)]; omega) | (rw [cnt_f hi.1 (show ¬ ((gA G 32 0 (i)) = p) by omega)]; omega)) (by omega)
  exact L4 _ (0) (0) (by omega) (rfl) (Nat.lt_succ_self _)
set_option maxRecDepth 10000 in
theorem sp_X12_staysOf {l : Launch} {w : Wo} {d : Nat} {G : PH} {P : Option PV → PH → Prop} {p : Int} (hst : 0 ≤ (gF G 12 0 22) ∧ (gF G 12 0 22) ≤ 400) (hP : P (some (vI (cnt (fun i => (gA G 215 0 (i)) = p) (gF G 12 0 22)))) G) : PW l w M_X12_staysOf (d + 0) 0 [some (vR 12 (0)), some (vI (p)), none, none] [] G P := by
  refine pw_const r_12_staysOf_0 ?_
  refine pw_istore (ls' := [some (vR 12 (0)), some (vI (p)), some (vI (0)), none]) r_12_staysOf_1 rfl rfl ?_
  refine pw_const r_12_staysOf_2 ?_
  refine pw_istore (ls' := [some (vR 12 (0)), some (vI (p)), some (vI (0)), some (vI (0))]) r_12_staysOf_3 rfl rfl ?_
  have L4 : ∀ (nF : Nat) (i n : Int), (hi : 0 ≤ i ∧ i ≤ (gF G 12 0 22)) → (hn : n = cnt (fun i => (gA G 215 0 (i)) = p) i) → ((gF G 12 0 22) - i).toNat < nF → PW l w M_X12_staysOf (d + 0) 4 [some (vR 12 (0)), some (vI (p)), some (vI (n)), some (vI (i))] [] G P := by
    intro nF
    induction nF with
    | zero => intro _ _ _ _ hM; exact absurd hM (Nat.not_lt_zero _)
    | succ nF ih4 =>
      intro i n hi hn hM4
      have hcl := cnt_le (fun i => (gA G 215 0 (i)) = p) hi.1
      refine pw_iload r_12_staysOf_4 rfl ?_
      refine pw_aload r_12_staysOf_5 rfl ?_
      refine pw_getI r_12_staysOf_6 fs_12_22 (by decide) ?_
      refine pw_icmp_ge r_12_staysOf_9 (fun h09 => ?_) (fun h09 => ?_)
      · skip
        refine pw_iload r_12_staysOf_36 rfl ?_
        refine pw_iret r_12_staysOf_37 rfl (Nat.le_refl _) ⟨rfl, ?_⟩
        rw [show (gF G 12 0 22) = i by omega] at hP
        exact pe hP (by omega)
      · skip
        refine pw_iload r_12_staysOf_12 rfl ?_
        refine pw_aload r_12_staysOf_13 rfl ?_
        refine pw_getR r_12_staysOf_14 fs_12_18 (by decide) ?_
        refine pw_iload r_12_staysOf_17 rfl ?_
        refine pw_iald r_12_staysOf_18 sh215 (by omega) (by omega) ?_
        refine pw_iload r_12_staysOf_19 rfl ?_
        refine pw_icmp_ne r_12_staysOf_20 (fun h20 => ?_) (fun h20 => ?_)
        · skip
          refine pw_const r_12_staysOf_27 ?_
          refine pw_iadd r_12_staysOf_28 (by omega) ?_
          refine pw_istore (ls' := [some (vR 12 (0)), some (vI (p)), some (vI ((n + 0))), some (vI (i))]) r_12_staysOf_29 rfl rfl ?_
          refine pw_iinc (b := 0) (ls' := [some (vR 12 (0)), some (vI (p)), some (vI ((n + 0))), some (vI ((i + 1)))]) r_12_staysOf_30 rfl rfl (by omega) rfl ?_
          refine pw_goto r_12_staysOf_33 ?_
          exact ih4 ((i + 1)) ((n + 0)) (by omega) (by first | (rw [cnt_t hi.1 (show (gA G 215 0 (i)) = p by omega)]; omega) | (rw [cnt_f hi.1 (show ¬ ((gA G 215 0 (i)) = p) by omega)]; omega)) (by omega)
        · skip
          refine pw_const r_12_staysOf_23 ?_
          refine pw_goto r_12_staysOf_24 ?_
          refine pw_iadd r_12_staysOf_28 (by omega) ?_
          refine pw_istore (ls' := [some (vR 12 (0)), some (vI (p)), some (vI ((n + 1))), some (vI (i))]) r_12_staysOf_29 rfl rfl ?_
          refine pw_iinc (b := 0) (ls' := [some (vR 12 (0)), some (vI (p)), some (vI ((n + 1))), some (vI ((i + 1)))]) r_12_staysOf_30 rfl rfl (by omega) rfl ?_
          refine pw_goto r_12_staysOf_33 ?_
          exact ih4 ((i + 1)) ((n + 1)) (by omega) (by first | (rw [cnt_t hi.1 (show (gA G 215 0 (i)) = p by omega)]; omega) | (rw [cnt_f hi.1 (show ¬ ((gA G 215 0 (i)) = p) by omega)]; omega)) (by omega)
  exact L4 _ (0) (0) (by omega) (rfl) (Nat.lt_succ_self _)
set_option maxRecDepth 10000 in
theorem sp_X12_inBeds {l : Launch} {w : Wo} {d : Nat} {G : PH} {P : Option PV → PH → Prop} {c : Int} (hsz : 0 ≤ (gF G 12 0 17) ∧ (gF G 12 0 17) ≤ 150) (hP : P (some (vI (cnt (fun i => (gA G 206 0 (i)) ≤ 1 ∧ (gA G 207 0 (i)) = c) (gF G 12 0 17)))) G) : PW l w M_X12_inBeds (d + 0) 0 [some (vR 12 (0)), some (vI (c)), none, none] [] G P := by
  refine pw_const r_12_inBeds_0 ?_
  refine pw_istore (ls' := [some (vR 12 (0)), some (vI (c)), some (vI (0)), none]) r_12_inBeds_1 rfl rfl ?_
  refine pw_const r_12_inBeds_2 ?_
  refine pw_istore (ls' := [some (vR 12 (0)), some (vI (c)), some (vI (0)), some (vI (0))]) r_12_inBeds_3 rfl rfl ?_
  have L4 : ∀ (nF : Nat) (i n : Int), (hi : 0 ≤ i ∧ i ≤ (gF G 12 0 17)) → (hn : n = cnt (fun i => (gA G 206 0 (i)) ≤ 1 ∧ (gA G 207 0 (i)) = c) i) → ((gF G 12 0 17) - i).toNat < nF → PW l w M_X12_inBeds (d + 0) 4 [some (vR 12 (0)), some (vI (c)), some (vI (n)), some (vI (i))] [] G P := by
    intro nF
    induction nF with
    | zero => intro _ _ _ _ hM; exact absurd hM (Nat.not_lt_zero _)
    | succ nF ih4 =>
      intro i n hi hn hM4
      have hcl := cnt_le (fun i => (gA G 206 0 (i)) ≤ 1 ∧ (gA G 207 0 (i)) = c) hi.1
      refine pw_iload r_12_inBeds_4 rfl ?_
      refine pw_aload r_12_inBeds_5 rfl ?_
      refine pw_getI r_12_inBeds_6 fs_12_17 (by decide) ?_
      refine pw_icmp_ge r_12_inBeds_9 (fun h09 => ?_) (fun h09 => ?_)
      · skip
        refine pw_iload r_12_inBeds_46 rfl ?_
        refine pw_iret r_12_inBeds_47 rfl (Nat.le_refl _) ⟨rfl, ?_⟩
        rw [show (gF G 12 0 17) = i by omega] at hP
        exact pe hP (by omega)
      · skip
        refine pw_iload r_12_inBeds_12 rfl ?_
        refine pw_aload r_12_inBeds_13 rfl ?_
        refine pw_getR r_12_inBeds_14 fs_12_8 (by decide) ?_
        refine pw_iload r_12_inBeds_17 rfl ?_
        refine pw_iald r_12_inBeds_18 sh206 (by omega) (by omega) ?_
        refine pw_const r_12_inBeds_19 ?_
        refine pw_icmp_gt r_12_inBeds_20 (fun h20 => ?_) (fun h20 => ?_)
        · skip
          refine pw_const r_12_inBeds_37 ?_
          refine pw_iadd r_12_inBeds_38 (by omega) ?_
          refine pw_istore (ls' := [some (vR 12 (0)), some (vI (c)), some (vI ((n + 0))), some (vI (i))]) r_12_inBeds_39 rfl rfl ?_
          refine pw_iinc (b := 0) (ls' := [some (vR 12 (0)), some (vI (c)), some (vI ((n + 0))), some (vI ((i + 1)))]) r_12_inBeds_40 rfl rfl (by omega) rfl ?_
          refine pw_goto r_12_inBeds_43 ?_
          exact ih4 ((i + 1)) ((n + 0)) (by omega) (by first | (rw [cnt_t hi.1 (show (gA G 206 0 (i)) ≤ 1 ∧ (gA G 207 0 (i)) = c by omega)]; omega) | (rw [cnt_f hi.1 (show ¬ ((gA G 206 0 (i)) ≤ 1 ∧ (gA G 207 0 (i)) = c) by omega)]; omega)) (by omega)
        · skip
          refine pw_aload r_12_inBeds_23 rfl ?_
          refine pw_getR r_12_inBeds_24 fs_12_9 (by decide) ?_
          refine pw_iload r_12_inBeds_27 rfl ?_
          refine pw_iald r_12_inBeds_28 sh207 (by omega) (by omega) ?_
          refine pw_iload r_12_inBeds_29 rfl ?_
          refine pw_icmp_ne r_12_inBeds_30 (fun h30 => ?_) (fun h30 => ?_)
          · skip
            refine pw_const r_12_inBeds_37 ?_
            refine pw_iadd r_12_inBeds_38 (by omega) ?_
            refine pw_istore (ls' := [some (vR 12 (0)), some (vI (c)), some (vI ((n + 0))), some (vI (i))]) r_12_inBeds_39 rfl rfl ?_
            refine pw_iinc (b := 0) (ls' := [some (vR 12 (0)), some (vI (c)), some (vI ((n + 0))), some (vI ((i + 1)))]) r_12_inBeds_40 rfl rfl (by omega) rfl ?_
            refine pw_goto r_12_inBeds_43 ?_
            exact ih4 ((i + 1)) ((n + 0)) (by omega) (by first | (rw [cnt_t hi.1 (show (gA G 206 0 (i)) ≤ 1 ∧ (gA G 207 0 (i)) = c by omega)]; omega) | (rw [cnt_f hi.1 (show ¬ ((gA G 206 0 (i)) ≤ 1 ∧ (gA G 207 0 (i)) = c) by omega)]; omega)) (by omega)
          · skip
            refine pw_const r_12_inBeds_33 ?_
            refine pw_goto r_12_inBeds_34 ?_
            refine pw_iadd r_12_inBeds_38 (by omega) ?_
            refine pw_istore (ls' := [some (vR 12 (0)), some (vI (c)), some (vI ((n + 1))), some (vI (i))]) r_12_inBeds_39 rfl rfl ?_
            refine pw_iinc (b := 0) (ls' := [some (vR 12 (0)), some (vI (c)), some (vI ((n + 1))), some (vI ((i + 1)))]) r_12_inBeds_40 rfl rfl (by omega) rfl ?_
            refine pw_goto r_12_inBeds_43 ?_
            exact ih4 ((i + 1)) ((n + 1)) (by omega) (by first | (rw [cnt_t hi.1 (show (gA G 206 0 (i)) ≤ 1 ∧ (gA G 207 0 (i)) = c by omega)]; omega) | (rw [cnt_f hi.1 (show ¬ ((gA G 206 0 (i)) ≤ 1 ∧ (gA G 207 0 (i)) = c) by omega)]; omega)) (by omega)
  exact L4 _ (0) (0) (by omega) (rfl) (Nat.lt_succ_self _)
set_option maxRecDepth 10000 in
theorem sp_X12_onTheWay {l : Launch} {w : Wo} {d : Nat} {G : PH} {P : Option PV → PH → Prop} (hsz : 0 ≤ (gF G 12 0 17) ∧ (gF G 12 0 17) ≤ 150) (hP : P (some (vI (cnt (fun i => (gA G 206 0 (i)) = 1 ∧ (gA G 207 0 (i)) < 16) (gF G 12 0 17)))) G) : PW l w M_X12_onTheWay (d + 0) 0 [some (vR 12 (0)), none, none] [] G P := by
  refine pw_const r_12_onTheWay_0 ?_
  refine pw_istore (ls' := [some (vR 12 (0)), some (vI (0)), none]) r_12_onTheWay_1 rfl rfl ?_
  refine pw_const r_12_onTheWay_2 ?_
  refine pw_istore (ls' := [some (vR 12 (0)), some (vI (0)), some (vI (0))]) r_12_onTheWay_3 rfl rfl ?_
  have L4 : ∀ (nF : Nat) (i n : Int), (hi : 0 ≤ i ∧ i ≤ (gF G 12 0 17)) → (hn : n = cnt (fun i => (gA G 206 0 (i)) = 1 ∧ (gA G 207 0 (i)) < 16) i) → ((gF G 12 0 17) - i).toNat < nF → PW l w M_X12_onTheWay (d + 0) 4 [some (vR 12 (0)), some (vI (n)), some (vI (i))] [] G P := by
    intro nF
    induction nF with
    | zero => intro _ _ _ _ hM; exact absurd hM (Nat.not_lt_zero _)
    | succ nF ih4 =>
      intro i n hi hn hM4
      have hcl := cnt_le (fun i => (gA G 206 0 (i)) = 1 ∧ (gA G 207 0 (i)) < 16) hi.1
      refine pw_iload r_12_onTheWay_4 rfl ?_
      refine pw_aload r_12_onTheWay_5 rfl ?_
      refine pw_getI r_12_onTheWay_6 fs_12_17 (by decide) ?_
      refine pw_icmp_ge r_12_onTheWay_9 (fun h09 => ?_) (fun h09 => ?_)
      · skip
        refine pw_iload r_12_onTheWay_47 rfl ?_
        refine pw_iret r_12_onTheWay_48 rfl (Nat.le_refl _) ⟨rfl, ?_⟩
        rw [show (gF G 12 0 17) = i by omega] at hP
        exact pe hP (by omega)
      · skip
        refine pw_iload r_12_onTheWay_12 rfl ?_
        refine pw_aload r_12_onTheWay_13 rfl ?_
        refine pw_getR r_12_onTheWay_14 fs_12_8 (by decide) ?_
        refine pw_iload r_12_onTheWay_17 rfl ?_
        refine pw_iald r_12_onTheWay_18 sh206 (by omega) (by omega) ?_
        refine pw_const r_12_onTheWay_19 ?_
        refine pw_icmp_ne r_12_onTheWay_20 (fun h20 => ?_) (fun h20 => ?_)
        · skip
          refine pw_const r_12_onTheWay_38 ?_
          refine pw_iadd r_12_onTheWay_39 (by omega) ?_
          refine pw_istore (ls' := [some (vR 12 (0)), some (vI ((n + 0))), some (vI (i))]) r_12_onTheWay_40 rfl rfl ?_
          refine pw_iinc (b := 0) (ls' := [some (vR 12 (0)), some (vI ((n + 0))), some (vI ((i + 1)))]) r_12_onTheWay_41 rfl rfl (by omega) rfl ?_
          refine pw_goto r_12_onTheWay_44 ?_
          exact ih4 ((i + 1)) ((n + 0)) (by omega) (by first | (rw [cnt_t hi.1 (show (gA G 206 0 (i)) = 1 ∧ (gA G 207 0 (i)) < 16 by omega)]; omega) | (rw [cnt_f hi.1 (show ¬ ((gA G 206 0 (i)) = 1 ∧ (gA G 207 0 (i)) < 16) by omega)]; omega)) (by omega)
        · skip
          refine pw_aload r_12_onTheWay_23 rfl ?_
          refine pw_getR r_12_onTheWay_24 fs_12_9 (by decide) ?_
          refine pw_iload r_12_onTheWay_27 rfl ?_
          refine pw_iald r_12_onTheWay_28 sh207 (by omega) (by omega) ?_
          refine pw_const r_12_onTheWay_29 ?_
          refine pw_icmp_ge r_12_onTheWay_31 (fun h31 => ?_) (fun h31 => ?_)
          · skip
            refine pw_const r_12_onTheWay_38 ?_
            refine pw_iadd r_12_onTheWay_39 (by omega) ?_
            refine pw_istore (ls' := [some (vR 12 (0)), some (vI ((n + 0))), some (vI (i))]) r_12_onTheWay_40 rfl rfl ?_
            refine pw_iinc (b := 0) (ls' := [some (vR 12 (0)), some (vI ((n + 0))), some (vI ((i + 1)))]) r_12_onTheWay_41 rfl rfl (by omega) rfl ?_
            refine pw_goto r_12_onTheWay_44 ?_
            exact ih4 ((i + 1)) ((n + 0)) (by omega) (by first | (rw [cnt_t hi.1 (show (gA G 206 0 (i)) = 1 ∧ (gA G 207 0 (i)) < 16 by omega)]; omega) | (rw [cnt_f hi.1 (show ¬ ((gA G 206 0 (i)) = 1 ∧ (gA G 207 0 (i)) < 16) by omega)]; omega)) (by omega)
          · skip
            refine pw_const r_12_onTheWay_34 ?_
            refine pw_goto r_12_onTheWay_35 ?_
            refine pw_iadd r_12_onTheWay_39 (by omega) ?_
            refine pw_istore (ls' := [some (vR 12 (0)), some (vI ((n + 1))), some (vI (i))]) r_12_onTheWay_40 rfl rfl ?_
            refine pw_iinc (b := 0) (ls' := [some (vR 12 (0)), some (vI ((n + 1))), some (vI ((i + 1)))]) r_12_onTheWay_41 rfl rfl (by omega) rfl ?_
            refine pw_goto r_12_onTheWay_44 ?_
            exact ih4 ((i + 1)) ((n + 1)) (by omega) (by first | (rw [cnt_t hi.1 (show (gA G 206 0 (i)) = 1 ∧ (gA G 207 0 (i)) < 16 by omega)]; omega) | (rw [cnt_f hi.1 (show ¬ ((gA G 206 0 (i)) = 1 ∧ (gA G 207 0 (i)) < 16) by omega)]; omega)) (by omega)
  exact L4 _ (0) (0) (by omega) (rfl) (Nat.lt_succ_self _)
set_option maxRecDepth 10000 in
theorem sp_X12_doneOf {l : Launch} {w : Wo} {d : Nat} {G : PH} {P : Option PV → PH → Prop} {j : Int} (hsz : 0 ≤ (gF G 12 0 17) ∧ (gF G 12 0 17) ≤ 150) (hj : 0 ≤ j ∧ j < 40) (hP : P (some (vI (cnt (fun i => ((gA G 206 0 (i)) = 5 ∧ (gA G 205 0 (i)) = (gA G 224 0 (j))) ∧ (gA G 226 0 (j)) ≤ (gA G 213 0 (i)) ∧ (gA G 213 0 (i)) ≤ (gA G 227 0 (j))) (gF G 12 0 17)))) G) : PW l w M_X12_doneOf (d + 1) 0 [some (vR 12 (0)), some (vI (j)), none, none, none] [] G P := by
  refine pw_const r_12_doneOf_0 ?_
  refine pw_istore (ls' := [some (vR 12 (0)), some (vI (j)), some (vI (0)), none, none]) r_12_doneOf_1 rfl rfl ?_
  refine pw_const r_12_doneOf_2 ?_
  refine pw_istore (ls' := [some (vR 12 (0)), some (vI (j)), some (vI (0)), some (vI (0)), none]) r_12_doneOf_3 rfl rfl ?_
  have L4 : ∀ (nF : Nat) (i n : Int), (hi : 0 ≤ i ∧ i ≤ (gF G 12 0 17)) → (hn : n = cnt (fun i => ((gA G 206 0 (i)) = 5 ∧ (gA G 205 0 (i)) = (gA G 224 0 (j))) ∧ (gA G 226 0 (j)) ≤ (gA G 213 0 (i)) ∧ (gA G 213 0 (i)) ≤ (gA G 227 0 (j))) i) → ((gF G 12 0 17) - i).toNat < nF → PW l w M_X12_doneOf (d + 1) 4 [some (vR 12 (0)), some (vI (j)), some (vI (n)), some (vI (i)), none] [] G P := by
    intro nF
    induction nF with
    | zero => intro _ _ _ _ hM; exact absurd hM (Nat.not_lt_zero _)
    | succ nF ih4 =>
      intro i n hi hn hM4
      have hcl := cnt_le (fun i => ((gA G 206 0 (i)) = 5 ∧ (gA G 205 0 (i)) = (gA G 224 0 (j))) ∧ (gA G 226 0 (j)) ≤ (gA G 213 0 (i)) ∧ (gA G 213 0 (i)) ≤ (gA G 227 0 (j))) hi.1
      refine pw_iload r_12_doneOf_4 rfl ?_
      refine pw_aload r_12_doneOf_5 rfl ?_
      refine pw_getI r_12_doneOf_6 fs_12_17 (by decide) ?_
      refine pw_icmp_ge r_12_doneOf_9 (fun h09 => ?_) (fun h09 => ?_)
      · skip
        refine pw_iload r_12_doneOf_87 rfl ?_
        refine pw_iret r_12_doneOf_88 rfl (Nat.le_refl _) ⟨rfl, ?_⟩
        rw [show (gF G 12 0 17) = i by omega] at hP
        exact pe hP (by omega)
      · skip
        refine pw_aload r_12_doneOf_12 rfl ?_
        refine pw_getR r_12_doneOf_13 fs_12_8 (by decide) ?_
        refine pw_iload r_12_doneOf_16 rfl ?_
        refine pw_iald r_12_doneOf_17 sh206 (by omega) (by omega) ?_
        refine pw_const r_12_doneOf_18 ?_
        refine pw_icmp_ne r_12_doneOf_19 (fun h19 => ?_) (fun h19 => ?_)
        · skip
          refine pw_const r_12_doneOf_41 ?_
          refine pw_istore (ls' := [some (vR 12 (0)), some (vI (j)), some (vI (n)), some (vI (i)), some (vI (0))]) r_12_doneOf_42 rfl rfl ?_
          refine pw_iload r_12_doneOf_44 rfl ?_
          refine pw_iload r_12_doneOf_45 rfl ?_
          refine pw_if_eq r_12_doneOf_47 (fun h47 => ?_) (fun h47 => ?_)
          · skip
            refine pw_const r_12_doneOf_78 ?_
            refine pw_iadd r_12_doneOf_79 (by omega) ?_
            refine pw_istore (ls' := [some (vR 12 (0)), some (vI (j)), some (vI ((n + 0))), some (vI (i)), some (vI (0))]) r_12_doneOf_80 rfl rfl ?_
            refine pw_iinc (b := 0) (ls' := [some (vR 12 (0)), some (vI (j)), some (vI ((n + 0))), some (vI ((i + 1))), some (vI (0))]) r_12_doneOf_81 rfl rfl (by omega) rfl ?_
            refine pw_goto r_12_doneOf_84 ?_
            refine pw_weakL (ls' := [some (vR 12 (0)), some (vI (j)), some (vI ((n + 0))), some (vI ((i + 1))), none]) (⟨rfl, ⟨rfl, ⟨rfl, ⟨rfl, trivial⟩⟩⟩⟩) ?_
            exact ih4 ((i + 1)) ((n + 0)) (by omega) (by first | (rw [cnt_t hi.1 (show ((gA G 206 0 (i)) = 5 ∧ (gA G 205 0 (i)) = (gA G 224 0 (j))) ∧ (gA G 226 0 (j)) ≤ (gA G 213 0 (i)) ∧ (gA G 213 0 (i)) ≤ (gA G 227 0 (j)) by omega)]; omega) | (rw [cnt_f hi.1 (show ¬ (((gA G 206 0 (i)) = 5 ∧ (gA G 205 0 (i)) = (gA G 224 0 (j))) ∧ (gA G 226 0 (j)) ≤ (gA G 213 0 (i)) ∧ (gA G 213 0 (i)) ≤ (gA G 227 0 (j))) by omega)]; omega)) (by omega)
          · skip
            refine pw_aload r_12_doneOf_50 rfl ?_
            refine pw_getR r_12_doneOf_51 fs_12_15 (by decide) ?_
            refine pw_iload r_12_doneOf_54 rfl ?_
            refine pw_iald r_12_doneOf_55 sh213 (by omega) (by omega) ?_
            refine pw_aload r_12_doneOf_56 rfl ?_
            refine pw_getR r_12_doneOf_57 fs_12_32 (by decide) ?_
            refine pw_iload r_12_doneOf_60 rfl ?_
            refine pw_iald r_12_doneOf_61 sh226 (by omega) (by omega) ?_
            refine pw_aload r_12_doneOf_62 rfl ?_
            refine pw_getR r_12_doneOf_63 fs_12_33 (by decide) ?_
            refine pw_iload r_12_doneOf_66 rfl ?_
            refine pw_iald r_12_doneOf_67 sh227 (by omega) (by omega) ?_
            refine pw_callS (av := [vI (gA G 213 (0) (i)), vI (gA G 226 (0) (j)), vI (gA G 227 (0) (j))]) (st := [vI (n)]) (ls0 := [some (vI (gA G 213 (0) (i))), some (vI (gA G 226 (0) (j))), some (vI (gA G 227 (0) (j)))]) r_12_doneOf_68 rfl rfl rfl (Nat.le_refl _) ?_
            refine sp_X12_within  ?_
            refine pw_if_eqB r_12_doneOf_71 (fun h71 => ?_) (fun h71 => ?_)
            · skip
              refine pw_const r_12_doneOf_78 ?_
              refine pw_iadd r_12_doneOf_79 (by omega) ?_
              refine pw_istore (ls' := [some (vR 12 (0)), some (vI (j)), some (vI ((n + 0))), some (vI (i)), some (vI (0))]) r_12_doneOf_80 rfl rfl ?_
              refine pw_iinc (b := 0) (ls' := [some (vR 12 (0)), some (vI (j)), some (vI ((n + 0))), some (vI ((i + 1))), some (vI (0))]) r_12_doneOf_81 rfl rfl (by omega) rfl ?_
              refine pw_goto r_12_doneOf_84 ?_
              refine pw_weakL (ls' := [some (vR 12 (0)), some (vI (j)), some (vI ((n + 0))), some (vI ((i + 1))), none]) (⟨rfl, ⟨rfl, ⟨rfl, ⟨rfl, trivial⟩⟩⟩⟩) ?_
              exact ih4 ((i + 1)) ((n + 0)) (by omega) (by first | (rw [cnt_t hi.1 (show ((gA G 206 0 (i)) = 5 ∧ (gA G 205 0 (i)) = (gA G 224 0 (j))) ∧ (gA G 226 0 (j)) ≤ (gA G 213 0 (i)) ∧ (gA G 213 0 (i)) ≤ (gA G 227 0 (j)) by omega)]; omega) | (rw [cnt_f hi.1 (show ¬ (((gA G 206 0 (i)) = 5 ∧ (gA G 205 0 (i)) = (gA G 224 0 (j))) ∧ (gA G 226 0 (j)) ≤ (gA G 213 0 (i)) ∧ (gA G 213 0 (i)) ≤ (gA G 227 0 (j))) by omega)]; omega)) (by omega)
            · skip
              refine pw_const r_12_doneOf_74 ?_
              refine pw_goto r_12_doneOf_75 ?_
              refine pw_iadd r_12_doneOf_79 (by omega) ?_
              refine pw_istore (ls' := [some (vR 12 (0)), some (vI (j)), some (vI ((n + 1))), some (vI (i)), some (vI (0))]) r_12_doneOf_80 rfl rfl ?_
              refine pw_iinc (b := 0) (ls' := [some (vR 12 (0)), some (vI (j)), some (vI ((n + 1))), some (vI ((i + 1))), some (vI (0))]) r_12_doneOf_81 rfl rfl (by omega) rfl ?_
              refine pw_goto r_12_doneOf_84 ?_
              refine pw_weakL (ls' := [some (vR 12 (0)), some (vI (j)), some (vI ((n + 1))), some (vI ((i + 1))), none]) (⟨rfl, ⟨rfl, ⟨rfl, ⟨rfl, trivial⟩⟩⟩⟩) ?_
              exact ih4 ((i + 1)) ((n + 1)) (by omega) (by first | (rw [cnt_t hi.1 (show ((gA G 206 0 (i)) = 5 ∧ (gA G 205 0 (i)) = (gA G 224 0 (j))) ∧ (gA G 226 0 (j)) ≤ (gA G 213 0 (i)) ∧ (gA G 213 0 (i)) ≤ (gA G 227 0 (j)) by omega)]; omega) | (rw [cnt_f hi.1 (show ¬ (((gA G 206 0 (i)) = 5 ∧ (gA G 205 0 (i)) = (gA G 224 0 (j))) ∧ (gA G 226 0 (j)) ≤ (gA G 213 0 (i)) ∧ (gA G 213 0 (i)) ≤ (gA G 227 0 (j))) by omega)]; omega)) (by omega)
        · skip
          refine pw_aload r_12_doneOf_22 rfl ?_
          refine pw_getR r_12_doneOf_23 fs_12_7 (by decide) ?_
          refine pw_iload r_12_doneOf_26 rfl ?_
          refine pw_iald r_12_doneOf_27 sh205 (by omega) (by omega) ?_
          refine pw_aload r_12_doneOf_28 rfl ?_
          refine pw_getR r_12_doneOf_29 fs_12_30 (by decide) ?_
          refine pw_iload r_12_doneOf_32 rfl ?_
          refine pw_iald r_12_doneOf_33 sh224 (by omega) (by omega) ?_
          refine pw_icmp_ne r_12_doneOf_34 (fun h34 => ?_) (fun h34 => ?_)
          · skip
            refine pw_const r_12_doneOf_41 ?_
            refine pw_istore (ls' := [some (vR 12 (0)), some (vI (j)), some (vI (n)), some (vI (i)), some (vI (0))]) r_12_doneOf_42 rfl rfl ?_
            refine pw_iload r_12_doneOf_44 rfl ?_
            refine pw_iload r_12_doneOf_45 rfl ?_
            refine pw_if_eq r_12_doneOf_47 (fun h47 => ?_) (fun h47 => ?_)
            · skip
              refine pw_const r_12_doneOf_78 ?_
              refine pw_iadd r_12_doneOf_79 (by omega) ?_
              refine pw_istore (ls' := [some (vR 12 (0)), some (vI (j)), some (vI ((n + 0))), some (vI (i)), some (vI (0))]) r_12_doneOf_80 rfl rfl ?_
              refine pw_iinc (b := 0) (ls' := [some (vR 12 (0)), some (vI (j)), some (vI ((n + 0))), some (vI ((i + 1))), some (vI (0))]) r_12_doneOf_81 rfl rfl (by omega) rfl ?_
              refine pw_goto r_12_doneOf_84 ?_
              refine pw_weakL (ls' := [some (vR 12 (0)), some (vI (j)), some (vI ((n + 0))), some (vI ((i + 1))), none]) (⟨rfl, ⟨rfl, ⟨rfl, ⟨rfl, trivial⟩⟩⟩⟩) ?_
              exact ih4 ((i + 1)) ((n + 0)) (by omega) (by first | (rw [cnt_t hi.1 (show ((gA G 206 0 (i)) = 5 ∧ (gA G 205 0 (i)) = (gA G 224 0 (j))) ∧ (gA G 226 0 (j)) ≤ (gA G 213 0 (i)) ∧ (gA G 213 0 (i)) ≤ (gA G 227 0 (j)) by omega)]; omega) | (rw [cnt_f hi.1 (show ¬ (((gA G 206 0 (i)) = 5 ∧ (gA G 205 0 (i)) = (gA G 224 0 (j))) ∧ (gA G 226 0 (j)) ≤ (gA G 213 0 (i)) ∧ (gA G 213 0 (i)) ≤ (gA G 227 0 (j))) by omega)]; omega)) (by omega)
            · skip
              refine pw_aload r_12_doneOf_50 rfl ?_
              refine pw_getR r_12_doneOf_51 fs_12_15 (by decide) ?_
              refine pw_iload r_12_doneOf_54 rfl ?_
              refine pw_iald r_12_doneOf_55 sh213 (by omega) (by omega) ?_
              refine pw_aload r_12_doneOf_56 rfl ?_
              refine pw_getR r_12_doneOf_57 fs_12_32 (by decide) ?_
              refine pw_iload r_12_doneOf_60 rfl ?_
              refine pw_iald r_12_doneOf_61 sh226 (by omega) (by omega) ?_
              refine pw_aload r_12_doneOf_62 rfl ?_
              refine pw_getR r_12_doneOf_63 fs_12_33 (by decide) ?_
              refine pw_iload r_12_doneOf_66 rfl ?_
              refine pw_iald r_12_doneOf_67 sh227 (by omega) (by omega) ?_
              refine pw_callS (av := [vI (gA G 213 (0) (i)), vI (gA G 226 (0) (j)), vI (gA G 227 (0) (j))]) (st := [vI (n)]) (ls0 := [some (vI (gA G 213 (0) (i))), some (vI (gA G 226 (0) (j))), some (vI (gA G 227 (0) (j)))]) r_12_doneOf_68 rfl rfl rfl (Nat.le_refl _) ?_
              refine sp_X12_within  ?_
              refine pw_if_eqB r_12_doneOf_71 (fun h71 => ?_) (fun h71 => ?_)
              · skip
                refine pw_const r_12_doneOf_78 ?_
                refine pw_iadd r_12_doneOf_79 (by omega) ?_
                refine pw_istore (ls' := [some (vR 12 (0)), some (vI (j)), some (vI ((n + 0))), some (vI (i)), some (vI (0))]) r_12_doneOf_80 rfl rfl ?_
                refine pw_iinc (b := 0) (ls' := [some (vR 12 (0)), some (vI (j)), some (vI ((n + 0))), some (vI ((i + 1))), some (vI (0))]) r_12_doneOf_81 rfl rfl (by omega) rfl ?_
                refine pw_goto r_12_doneOf_84 ?_
                refine pw_weakL (ls' := [some (vR 12 (0)), some (vI (j)), some (vI ((n + 0))), some (vI ((i + 1))), none]) (⟨rfl, ⟨rfl, ⟨rfl, ⟨rfl, trivial⟩⟩⟩⟩) ?_
                exact ih4 ((i + 1)) ((n + 0)) (by omega) (by first | (rw [cnt_t hi.1 (show ((gA G 206 0 (i)) = 5 ∧ (gA G 205 0 (i)) = (gA G 224 0 (j))) ∧ (gA G 226 0 (j)) ≤ (gA G 213 0 (i)) ∧ (gA G 213 0 (i)) ≤ (gA G 227 0 (j)) by omega)]; omega) | (rw [cnt_f hi.1 (show ¬ (((gA G 206 0 (i)) = 5 ∧ (gA G 205 0 (i)) = (gA G 224 0 (j))) ∧ (gA G 226 0 (j)) ≤ (gA G 213 0 (i)) ∧ (gA G 213 0 (i)) ≤ (gA G 227 0 (j))) by omega)]; omega)) (by omega)
              · skip
                refine pw_const r_12_doneOf_74 ?_
                refine pw_goto r_12_doneOf_75 ?_
                refine pw_iadd r_12_doneOf_79 (by omega) ?_
                refine pw_istore (ls' := [some (vR 12 (0)), some (vI (j)), some (vI ((n + 1))), some (vI (i)), some (vI (0))]) r_12_doneOf_80 rfl rfl ?_
                refine pw_iinc (b := 0) (ls' := [some (vR 12 (0)), some (vI (j)), some (vI ((n + 1))), some (vI ((i + 1))), some (vI (0))]) r_12_doneOf_81 rfl rfl (by omega) rfl ?_
                refine pw_goto r_12_doneOf_84 ?_
                refine pw_weakL (ls' := [some (vR 12 (0)), some (vI (j)), some (vI ((n + 1))), some (vI ((i + 1))), none]) (⟨rfl, ⟨rfl, ⟨rfl, ⟨rfl, trivial⟩⟩⟩⟩) ?_
                exact ih4 ((i + 1)) ((n + 1)) (by omega) (by first | (rw [cnt_t hi.1 (show ((gA G 206 0 (i)) = 5 ∧ (gA G 205 0 (i)) = (gA G 224 0 (j))) ∧ (gA G 226 0 (j)) ≤ (gA G 213 0 (i)) ∧ (gA G 213 0 (i)) ≤ (gA G 227 0 (j)) by omega)]; omega) | (rw [cnt_f hi.1 (show ¬ (((gA G 206 0 (i)) = 5 ∧ (gA G 205 0 (i)) = (gA G 224 0 (j))) ∧ (gA G 226 0 (j)) ≤ (gA G 213 0 (i)) ∧ (gA G 213 0 (i)) ≤ (gA G 227 0 (j))) by omega)]; omega)) (by omega)
          · skip
            refine pw_const r_12_doneOf_37 ?_
            refine pw_goto r_12_doneOf_38 ?_
            refine pw_istore (ls' := [some (vR 12 (0)), some (vI (j)), some (vI (n)), some (vI (i)), some (vI (1))]) r_12_doneOf_42 rfl rfl ?_
            refine pw_iload r_12_doneOf_44 rfl ?_
            refine pw_iload r_12_doneOf_45 rfl ?_
            refine pw_if_eq r_12_doneOf_47 (fun h47 => ?_) (fun h47 => ?_)
            · skip
              refine pw_const r_12_doneOf_78 ?_
              refine pw_iadd r_12_doneOf_79 (by omega) ?_
              refine pw_istore (ls' := [some (vR 12 (0)), some (vI (j)), some (vI ((n + 0))), some (vI (i)), some (vI (1))]) r_12_doneOf_80 rfl rfl ?_
              refine pw_iinc (b := 0) (ls' := [some (vR 12 (0)), some (vI (j)), some (vI ((n + 0))), some (vI ((i + 1))), some (vI (1))]) r_12_doneOf_81 rfl rfl (by omega) rfl ?_
              refine pw_goto r_12_doneOf_84 ?_
              refine pw_weakL (ls' := [some (vR 12 (0)), some (vI (j)), some (vI ((n + 0))), some (vI ((i + 1))), none]) (⟨rfl, ⟨rfl, ⟨rfl, ⟨rfl, trivial⟩⟩⟩⟩) ?_
              exact ih4 ((i + 1)) ((n + 0)) (by omega) (by first | (rw [cnt_t hi.1 (show ((gA G 206 0 (i)) = 5 ∧ (gA G 205 0 (i)) = (gA G 224 0 (j))) ∧ (gA G 226 0 (j)) ≤ (gA G 213 0 (i)) ∧ (gA G 213 0 (i)) ≤ (gA G 227 0 (j)) by omega)]; omega) | (rw [cnt_f hi.1 (show ¬ (((gA G 206 0 (i)) = 5 ∧ (gA G 205 0 (i)) = (gA G 224 0 (j))) ∧ (gA G 226 0 (j)) ≤ (gA G 213 0 (i)) ∧ (gA G 213 0 (i)) ≤ (gA G 227 0 (j))) by omega)]; omega)) (by omega)
            · skip
              refine pw_aload r_12_doneOf_50 rfl ?_
              refine pw_getR r_12_doneOf_51 fs_12_15 (by decide) ?_
              refine pw_iload r_12_doneOf_54 rfl ?_
              refine pw_iald r_12_doneOf_55 sh213 (by omega) (by omega) ?_
              refine pw_aload r_12_doneOf_56 rfl ?_
              refine pw_getR r_12_doneOf_57 fs_12_32 (by decide) ?_
              refine pw_iload r_12_doneOf_60 rfl ?_
              refine pw_iald r_12_doneOf_61 sh226 (by omega) (by omega) ?_
              refine pw_aload r_12_doneOf_62 rfl ?_
              refine pw_getR r_12_doneOf_63 fs_12_33 (by decide) ?_
              refine pw_iload r_12_doneOf_66 rfl ?_
              refine pw_iald r_12_doneOf_67 sh227 (by omega) (by omega) ?_
              refine pw_callS (av := [vI (gA G 213 (0) (i)), vI (gA G 226 (0) (j)), vI (gA G 227 (0) (j))]) (st := [vI (n)]) (ls0 := [some (vI (gA G 213 (0) (i))), some (vI (gA G 226 (0) (j))), some (vI (gA G 227 (0) (j)))]) r_12_doneOf_68 rfl rfl rfl (Nat.le_refl _) ?_
              refine sp_X12_within  ?_
              refine pw_if_eqB r_12_doneOf_71 (fun h71 => ?_) (fun h71 => ?_)
              · skip
                refine pw_const r_12_doneOf_78 ?_
                refine pw_iadd r_12_doneOf_79 (by omega) ?_
                refine pw_istore (ls' := [some (vR 12 (0)), some (vI (j)), some (vI ((n + 0))), some (vI (i)), some (vI (1))]) r_12_doneOf_80 rfl rfl ?_
                refine pw_iinc (b := 0) (ls' := [some (vR 12 (0)), some (vI (j)), some (vI ((n + 0))), some (vI ((i + 1))), some (vI (1))]) r_12_doneOf_81 rfl rfl (by omega) rfl ?_
                refine pw_goto r_12_doneOf_84 ?_
                refine pw_weakL (ls' := [some (vR 12 (0)), some (vI (j)), some (vI ((n + 0))), some (vI ((i + 1))), none]) (⟨rfl, ⟨rfl, ⟨rfl, ⟨rfl, trivial⟩⟩⟩⟩) ?_
                exact ih4 ((i + 1)) ((n + 0)) (by omega) (by first | (rw [cnt_t hi.1 (show ((gA G 206 0 (i)) = 5 ∧ (gA G 205 0 (i)) = (gA G 224 0 (j))) ∧ (gA G 226 0 (j)) ≤ (gA G 213 0 (i)) ∧ (gA G 213 0 (i)) ≤ (gA G 227 0 (j)) by omega)]; omega) | (rw [cnt_f hi.1 (show ¬ (((gA G 206 0 (i)) = 5 ∧ (gA G 205 0 (i)) = (gA G 224 0 (j))) ∧ (gA G 226 0 (j)) ≤ (gA G 213 0 (i)) ∧ (gA G 213 0 (i)) ≤ (gA G 227 0 (j))) by omega)]; omega)) (by omega)
              · skip
                refine pw_const r_12_doneOf_74 ?_
                refine pw_goto r_12_doneOf_75 ?_
                refine pw_iadd r_12_doneOf_79 (by omega) ?_
                refine pw_istore (ls' := [some (vR 12 (0)), some (vI (j)), some (vI ((n + 1))), some (vI (i)), some (vI (1))]) r_12_doneOf_80 rfl rfl ?_
                refine pw_iinc (b := 0) (ls' := [some (vR 12 (0)), some (vI (j)), some (vI ((n + 1))), some (vI ((i + 1))), some (vI (1))]) r_12_doneOf_81 rfl rfl (by omega) rfl ?_
                refine pw_goto r_12_doneOf_84 ?_
                refine pw_weakL (ls' := [some (vR 12 (0)), some (vI (j)), some (vI ((n + 1))), some (vI ((i + 1))), none]) (⟨rfl, ⟨rfl, ⟨rfl, ⟨rfl, trivial⟩⟩⟩⟩) ?_
                exact ih4 ((i + 1)) ((n + 1)) (by omega) (by first | (rw [cnt_t hi.1 (show ((gA G 206 0 (i)) = 5 ∧ (gA G 205 0 (i)) = (gA G 224 0 (j))) ∧ (gA G 226 0 (j)) ≤ (gA G 213 0 (i)) ∧ (gA G 213 0 (i)) ≤ (gA G 227 0 (j)) by omega)]; omega) | (rw [cnt_f hi.1 (show ¬ (((gA G 206 0 (i)) = 5 ∧ (gA G 205 0 (i)) = (gA G 224 0 (j))) ∧ (gA G 226 0 (j)) ≤ (gA G 213 0 (i)) ∧ (gA G 213 0 (i)) ≤ (gA G 227 0 (j))) by omega)]; omega)) (by omega)
  exact L4 _ (0) (0) (by omega) (rfl) (Nat.lt_succ_self _)
