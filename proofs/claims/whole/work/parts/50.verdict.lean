section WG
variable {st : Int → Int} {ST : Int → Prop} {W0 W1 : Int → Int} {L bars wor : Int → Int → Int} {la n set : Int}
theorem bar_aw (hw : ∀ i, 0 ≤ i → i < n → wOk st ST W0 W1 L bars wor la i) : (∃ i, 0 ≤ i ∧ i < n ∧ bt set i ∧ bars la i = 1) ↔ (∃ i, 0 ≤ i ∧ i < n ∧ bt set i ∧ st (L la i) ≠ 0) := by
  constructor
  · rintro ⟨i, a, b, c, d⟩
    rcases hw i a b with ⟨h1, h2⟩ | ⟨h1, h2, h3⟩
    · exact ⟨i, a, b, c, h1⟩
    · exfalso; omega
  · rintro ⟨i, a, b, c, d⟩
    rcases hw i a b with ⟨h1, h2⟩ | ⟨h1, h2, h3⟩
    · exact ⟨i, a, b, c, h2⟩
    · exact absurd h1 d
theorem bar_sy (hw : ∀ i, 0 ≤ i → i < n → wOk st ST W0 W1 L bars wor la i) (hn : ¬ ∃ i, 0 ≤ i ∧ i < n ∧ bt set i ∧ st (L la i) ≠ 0) : (∃ i, 0 ≤ i ∧ i < n ∧ bt set i ∧ bars la i = 2) ↔ (∃ i, 0 ≤ i ∧ i < n ∧ bt set i ∧ ST (L la i)) := by
  constructor
  · rintro ⟨i, a, b, c, d⟩
    rcases hw i a b with ⟨h1, h2⟩ | ⟨h1, ⟨h2, h3⟩ | ⟨h2, h3⟩, h4⟩
    · omega
    · exact ⟨i, a, b, c, h2⟩
    · omega
  · rintro ⟨i, a, b, c, d⟩
    rcases hw i a b with ⟨h1, h2⟩ | ⟨h1, ⟨h2, h3⟩ | ⟨h2, h3⟩, h4⟩
    · exact absurd ⟨i, a, b, c, h1⟩ hn
    · exact ⟨i, a, b, c, h3⟩
    · exact absurd d h2
theorem sum_w0 (hw : ∀ i, 0 ≤ i → i < n → wOk st ST W0 W1 L bars wor la i) (h0 : 0 ≤ n) (hn : ¬ ∃ i, 0 ≤ i ∧ i < n ∧ bt set i ∧ st (L la i) ≠ 0) : smF (wor (2 * la)) set n = smF (fun i => W0 (L la i)) set n := sm_congr h0 fun i a b c => by
  rcases hw i a b with ⟨h1, h2⟩ | ⟨h1, h2, h3, h4⟩
  · exact absurd ⟨i, a, b, c, h1⟩ hn
  · exact h3
theorem sum_w1 (hw : ∀ i, 0 ≤ i → i < n → wOk st ST W0 W1 L bars wor la i) (h0 : 0 ≤ n) (hn : ¬ ∃ i, 0 ≤ i ∧ i < n ∧ bt set i ∧ st (L la i) ≠ 0) : smF (wor (2 * la + 1)) set n = smF (fun i => W1 (L la i)) set n := sm_congr h0 fun i a b c => by
  rcases hw i a b with ⟨h1, h2⟩ | ⟨h1, h2, h3, h4⟩
  · exact absurd ⟨i, a, b, c, h1⟩ hn
  · exact h4
theorem ld_iff {gr dr cg ci DS GS : Int → Int} {r : Int} (hg : ∀ c, 0 ≤ c → c < 16 → gr c = cg c ∧ dr c = ci c) : (∃ c, 0 ≤ c ∧ c < 16 ∧ (dr c - DS c < min (pDiv (gr c - GS c + r - 1) r) (dr c))) ↔ ∃ c, 0 ≤ c ∧ c < 16 ∧ (ci c - DS c < min (pDiv (cg c - GS c + r - 1) r) (ci c)) := by
  constructor
  · rintro ⟨c, a, b, h⟩
    exact ⟨c, a, b, by rw [← (hg c a b).1, ← (hg c a b).2]; exact h⟩
  · rintro ⟨c, a, b, h⟩
    exact ⟨c, a, b, by rw [(hg c a b).1, (hg c a b).2]; exact h⟩
end WG
noncomputable def vdF (aw st a b c d pc ld : Int) : Int := if aw ≠ 0 then 1 else if st ≠ 0 then 2 else if b < a then 3 else if d < c then 4 else if pc ≠ 0 then 5 else if ld ≠ 0 then 6 else 0
section VD
variable {aw st pc ld : Prop} {a b c d : Int}
theorem b2i_ne {p : Prop} (h : p) : b2i p ≠ 0 := by rw [b2i_t h]; decide
theorem b2i_nn {p : Prop} (h : ¬ p) : ¬ b2i p ≠ 0 := by rw [b2i_f h]; decide
theorem vd_1 (h : aw) : vdF (b2i aw) (b2i st) a b c d (b2i pc) (b2i ld) = 1 := by unfold vdF; rw [if_pos (b2i_ne h)]
theorem vd_2 (h : ¬ aw) (h2 : st) : vdF (b2i aw) (b2i st) a b c d (b2i pc) (b2i ld) = 2 := by unfold vdF; rw [if_neg (b2i_nn h), if_pos (b2i_ne h2)]
theorem vd_3 (h : ¬ aw) (h2 : ¬ st) (h3 : b < a) : vdF (b2i aw) (b2i st) a b c d (b2i pc) (b2i ld) = 3 := by unfold vdF; rw [if_neg (b2i_nn h), if_neg (b2i_nn h2), if_pos h3]
theorem vd_4 (h : ¬ aw) (h2 : ¬ st) (h3 : a ≤ b) (h4 : d < c) : vdF (b2i aw) (b2i st) a b c d (b2i pc) (b2i ld) = 4 := by unfold vdF; rw [if_neg (b2i_nn h), if_neg (b2i_nn h2), if_neg (by omega), if_pos h4]
theorem vd_5 (h : ¬ aw) (h2 : ¬ st) (h3 : a ≤ b) (h4 : c ≤ d) (h5 : pc) : vdF (b2i aw) (b2i st) a b c d (b2i pc) (b2i ld) = 5 := by unfold vdF; rw [if_neg (b2i_nn h), if_neg (b2i_nn h2), if_neg (by omega), if_neg (by omega), if_pos (b2i_ne h5)]
theorem vd_6 (h : ¬ aw) (h2 : ¬ st) (h3 : a ≤ b) (h4 : c ≤ d) (h5 : ¬ pc) (h6 : ld) : vdF (b2i aw) (b2i st) a b c d (b2i pc) (b2i ld) = 6 := by unfold vdF; rw [if_neg (b2i_nn h), if_neg (b2i_nn h2), if_neg (by omega), if_neg (by omega), if_neg (b2i_nn h5), if_pos (b2i_ne h6)]
theorem vd_0 (h : ¬ aw) (h2 : ¬ st) (h3 : a ≤ b) (h4 : c ≤ d) (h5 : ¬ pc) (h6 : ¬ ld) : vdF (b2i aw) (b2i st) a b c d (b2i pc) (b2i ld) = 0 := by unfold vdF; rw [if_neg (b2i_nn h), if_neg (b2i_nn h2), if_neg (by omega), if_neg (by omega), if_neg (b2i_nn h5), if_neg (b2i_nn h6)]
theorem nor {p q : Prop} (h : ¬ p) (h1 : ¬ q) : ¬ (p ∨ q) := fun z => z.elim h h1
end VD
def awC (G : PH) (la set : Int) : Prop := ∃ i, 0 ≤ i ∧ i < (gA G 94 0 (la)) ∧ bt set i ∧ (gF G 3 ((gA G 93 (la) (i))) 8) ≠ 0
def syC (G : PH) (ST : Int → Int → Int → Prop) (la set : Int) : Prop := ∃ i, 0 ≤ i ∧ i < (gA G 94 0 (la)) ∧ bt set i ∧ ST (gA G 93 (la) (i)) (gF G 1 0 2) (gF G 1 0 2)
noncomputable def wfC (G : PH) (WT : Int → Int → Int → Int → Int) (la s set : Int) : Int := smF (fun i => WT (gA G 93 (la) (i)) s (gF G 1 0 2) (gF G 1 0 2)) set (gA G 94 0 (la))
def pcC (G : PH) (la set : Int) : Prop := ∃ i, 0 ≤ i ∧ i < (gA G 94 0 (la)) ∧ (0 ≤ (gF G 3 ((gA G 93 (la) (i))) 4) ∧ ∃ j, 0 ≤ j ∧ j < (gA G 94 0 (la)) ∧ (gA G 93 (la) (j)) = (gF G 3 ((gA G 93 (la) (i))) 4) ∧ ¬ (bt set i ↔ bt set j))
def ldC (G : PH) (la set : Int) : Prop := ∃ c, 0 ≤ c ∧ c < 16 ∧ (ciC G c 1 - cnt (fun i => (bt set i ∧ ((gF G 3 ((gA G 93 (la) (i))) 8) = 0 ∧ (gF G 3 ((gA G 93 (la) (i))) 10) = c)) ∧ (gF G 3 ((gA G 93 (la) (i))) 1) = 3) (gA G 94 0 (la)) < min (pDiv (cgC G c - cnt (fun i => (bt set i ∧ ((gF G 3 ((gA G 93 (la) (i))) 8) = 0 ∧ (gF G 3 ((gA G 93 (la) (i))) 10) = c)) ∧ 0 < (gF G 3 ((gA G 93 (la) (i))) 6)) (gA G 94 0 (la)) + (gF G 10 0 5) - 1) (gF G 10 0 5)) (ciC G c 1))
theorem cg_in {G : PH} (h : 0 ≤ (gF G 1 0 1)) (c : Int) : 0 ≤ cgC G c ∧ cgC G c ≤ (gF G 1 0 1) := cnt_le _ h
theorem ci_in {G : PH} (h : 0 ≤ (gF G 1 0 1)) (c t : Int) : 0 ≤ ciC G c t ∧ ciC G c t ≤ (gF G 1 0 1) := cnt_le _ h
def okC (G : PH) (ST : Int → Int → Int → Prop) (la set : Int) : Prop := ¬ awC G la set ∧ ¬ syC G ST la set ∧ ¬ pcC G la set ∧ ¬ ldC G la set
noncomputable def vdC (G : PH) (ST : Int → Int → Int → Prop) (WT : Int → Int → Int → Int → Int) (set0 set1 : Int) : Int := vdF (b2i (awC G 0 set0 ∨ awC G 1 set1)) (b2i (syC G ST 0 set0 ∨ syC G ST 1 set1)) (wfC G WT 0 0 set0) (wfC G WT 1 0 set1) (wfC G WT 1 1 set1) (wfC G WT 0 1 set0) (b2i (pcC G 0 set0 ∨ pcC G 1 set1)) (b2i (ldC G 0 set0 ∨ ldC G 1 set1))
/-- how many bits -/
def pcF (a : Int) : Int := a % 2 + a / 2 % 2 + a / 4 % 2 + a / 8 % 2 + a / 16 % 2 + a / 32 % 2 + a / 64 % 2

theorem wd_m10_98 : Cond.methodLink "NameRolls$Trade" 98 M_X10_isSetOf.1 ∈ UW := UW5_at 203 (by decide +kernel) rfl
theorem wd_s10_isSetOf : Cond.selects M_X10_isSetOf.1.cls M_X10_isSetOf.1 M_X10_isSetOf.1 ∈ UW := UWp_at 33 (by decide +kernel) rfl
theorem wd_m10_102 : Cond.methodLink "NameRolls$Trade" 102 M_X10_weigh.1 ∈ UW := UW5_at 207 (by decide +kernel) rfl
theorem wd_s10_weigh : Cond.selects M_X10_weigh.1.cls M_X10_weigh.1 M_X10_weigh.1 ∈ UW := UWp_at 34 (by decide +kernel) rfl
theorem wd_m10_105 : Cond.methodLink "NameRolls$Trade" 105 M_X10_isBarred.1 ∈ UW := UW5_at 218 (by decide +kernel) rfl
theorem wd_s10_isBarred : Cond.selects M_X10_isBarred.1.cls M_X10_isBarred.1 M_X10_isBarred.1 ∈ UW := UWp_at 35 (by decide +kernel) rfl
theorem wd_m10_108 : Cond.methodLink "NameRolls$Trade" 108 M_X10_sumWorth.1 ∈ UW := UW5_at 225 (by decide +kernel) rfl
theorem wd_s10_sumWorth : Cond.selects M_X10_sumWorth.1.cls M_X10_sumWorth.1 M_X10_sumWorth.1 ∈ UW := UWp_at 36 (by decide +kernel) rfl
theorem wd_m10_112 : Cond.methodLink "NameRolls$Trade" 112 M_X10_partsChild.1 ∈ UW := UW5_at 229 (by decide +kernel) rfl
theorem wd_s10_partsChild : Cond.selects M_X10_partsChild.1.cls M_X10_partsChild.1 M_X10_partsChild.1 ∈ UW := UWp_at 37 (by decide +kernel) rfl
theorem wd_m10_115 : Cond.methodLink "NameRolls$Trade" 115 M_X10_lacksDoctors.1 ∈ UW := UW5_at 233 (by decide +kernel) rfl
theorem wd_s10_lacksDoctors : Cond.selects M_X10_lacksDoctors.1.cls M_X10_lacksDoctors.1 M_X10_lacksDoctors.1 ∈ UW := UWp_at 38 (by decide +kernel) rfl
theorem wd_m11_184 : Cond.methodLink "NameRolls" 184 M_X10_verdict.1 ∈ UW := UW5_at 199 (by decide +kernel) rfl
theorem wd_s10_verdict : Cond.selects M_X10_verdict.1.cls M_X10_verdict.1 M_X10_verdict.1 ∈ UW := UW5_at 201 (by decide +kernel) rfl
theorem wd_c20_265 : Cond.constant "java/lang/Integer" 265 (Int32.ofInt 1431655765) ∈ UW := UW6_at 18 (by decide +kernel) rfl
theorem wd_c20_266 : Cond.constant "java/lang/Integer" 266 (Int32.ofInt 858993459) ∈ UW := UW6_at 19 (by decide +kernel) rfl
theorem wd_c20_267 : Cond.constant "java/lang/Integer" 267 (Int32.ofInt 252645135) ∈ UW := UW6_at 20 (by decide +kernel) rfl
theorem r_10_verdict_0 : RA M_X10_verdict 0 0 1 := Or.inl ⟨0, by decide +kernel, rfl, rfl⟩
theorem r_10_verdict_1 : RC M_X10_verdict 1 0 2 := ⟨⟨by decide, by decide⟩, Or.inl ⟨by decide +kernel, rfl⟩⟩
theorem r_10_verdict_2 : RL M_X10_verdict 2 1 3 := Or.inl ⟨1, by decide +kernel, rfl, rfl⟩
theorem r_10_verdict_3 : RKv M_X10_verdict M_X10_isSetOf 3 2 10 6 := ⟨98, by decide +kernel, wd_m10_98, ok_M_X10_isSetOf, wd_s10_isSetOf, rfl⟩
theorem r_10_verdict_6 : RB M_X10_verdict 6 (.ifCond .eq) 18 9 := ⟨12, by decide +kernel, rfl, rfl⟩
theorem r_10_verdict_18 : RC M_X10_verdict 18 (-1) 19 := ⟨⟨by decide, by decide⟩, Or.inl ⟨by decide +kernel, rfl⟩⟩
theorem r_10_verdict_19 : RW M_X10_verdict 19 .ireturn 20 1 := ⟨by decide +kernel, rfl⟩
theorem r_10_verdict_9 : RA M_X10_verdict 9 0 10 := Or.inl ⟨0, by decide +kernel, rfl, rfl⟩
theorem r_10_verdict_10 : RC M_X10_verdict 10 1 11 := ⟨⟨by decide, by decide⟩, Or.inl ⟨by decide +kernel, rfl⟩⟩
theorem r_10_verdict_11 : RL M_X10_verdict 11 2 12 := Or.inl ⟨2, by decide +kernel, rfl, rfl⟩
theorem r_10_verdict_12 : RKv M_X10_verdict M_X10_isSetOf 12 2 10 15 := ⟨98, by decide +kernel, wd_m10_98, ok_M_X10_isSetOf, wd_s10_isSetOf, rfl⟩
theorem r_10_verdict_15 : RB M_X10_verdict 15 (.ifCond .ne) 20 18 := ⟨5, by decide +kernel, rfl, rfl⟩
theorem r_10_verdict_20 : RA M_X10_verdict 20 0 21 := Or.inl ⟨0, by decide +kernel, rfl, rfl⟩
theorem r_10_verdict_21 : RKv M_X10_verdict M_X10_weigh 21 0 10 24 := ⟨102, by decide +kernel, wd_m10_102, ok_M_X10_weigh, wd_s10_weigh, rfl⟩
theorem r_10_verdict_24 : RA M_X10_verdict 24 0 25 := Or.inl ⟨0, by decide +kernel, rfl, rfl⟩
theorem r_10_verdict_25 : RC M_X10_verdict 25 0 26 := ⟨⟨by decide, by decide⟩, Or.inl ⟨by decide +kernel, rfl⟩⟩
theorem r_10_verdict_26 : RL M_X10_verdict 26 1 27 := Or.inl ⟨1, by decide +kernel, rfl, rfl⟩
theorem r_10_verdict_27 : RC M_X10_verdict 27 1 28 := ⟨⟨by decide, by decide⟩, Or.inl ⟨by decide +kernel, rfl⟩⟩
theorem r_10_verdict_28 : RKv M_X10_verdict M_X10_isBarred 28 3 10 31 := ⟨105, by decide +kernel, wd_m10_105, ok_M_X10_isBarred, wd_s10_isBarred, rfl⟩
theorem r_10_verdict_31 : RB M_X10_verdict 31 (.ifCond .ne) 44 34 := ⟨13, by decide +kernel, rfl, rfl⟩
theorem r_10_verdict_44 : RC M_X10_verdict 44 1 45 := ⟨⟨by decide, by decide⟩, Or.inl ⟨by decide +kernel, rfl⟩⟩
theorem r_10_verdict_45 : RW M_X10_verdict 45 .ireturn 46 1 := ⟨by decide +kernel, rfl⟩
theorem r_10_verdict_34 : RA M_X10_verdict 34 0 35 := Or.inl ⟨0, by decide +kernel, rfl, rfl⟩
theorem r_10_verdict_35 : RC M_X10_verdict 35 1 36 := ⟨⟨by decide, by decide⟩, Or.inl ⟨by decide +kernel, rfl⟩⟩
theorem r_10_verdict_36 : RL M_X10_verdict 36 2 37 := Or.inl ⟨2, by decide +kernel, rfl, rfl⟩
theorem r_10_verdict_37 : RC M_X10_verdict 37 1 38 := ⟨⟨by decide, by decide⟩, Or.inl ⟨by decide +kernel, rfl⟩⟩
theorem r_10_verdict_38 : RKv M_X10_verdict M_X10_isBarred 38 3 10 41 := ⟨105, by decide +kernel, wd_m10_105, ok_M_X10_isBarred, wd_s10_isBarred, rfl⟩
theorem r_10_verdict_41 : RB M_X10_verdict 41 (.ifCond .eq) 46 44 := ⟨5, by decide +kernel, rfl, rfl⟩
theorem r_10_verdict_46 : RA M_X10_verdict 46 0 47 := Or.inl ⟨0, by decide +kernel, rfl, rfl⟩
theorem r_10_verdict_47 : RC M_X10_verdict 47 0 48 := ⟨⟨by decide, by decide⟩, Or.inl ⟨by decide +kernel, rfl⟩⟩
theorem r_10_verdict_48 : RL M_X10_verdict 48 1 49 := Or.inl ⟨1, by decide +kernel, rfl, rfl⟩
theorem r_10_verdict_49 : RC M_X10_verdict 49 2 50 := ⟨⟨by decide, by decide⟩, Or.inl ⟨by decide +kernel, rfl⟩⟩
theorem r_10_verdict_50 : RKv M_X10_verdict M_X10_isBarred 50 3 10 53 := ⟨105, by decide +kernel, wd_m10_105, ok_M_X10_isBarred, wd_s10_isBarred, rfl⟩
theorem r_10_verdict_53 : RB M_X10_verdict 53 (.ifCond .ne) 66 56 := ⟨13, by decide +kernel, rfl, rfl⟩
theorem r_10_verdict_66 : RC M_X10_verdict 66 2 67 := ⟨⟨by decide, by decide⟩, Or.inl ⟨by decide +kernel, rfl⟩⟩
theorem r_10_verdict_67 : RW M_X10_verdict 67 .ireturn 68 1 := ⟨by decide +kernel, rfl⟩
theorem r_10_verdict_56 : RA M_X10_verdict 56 0 57 := Or.inl ⟨0, by decide +kernel, rfl, rfl⟩
theorem r_10_verdict_57 : RC M_X10_verdict 57 1 58 := ⟨⟨by decide, by decide⟩, Or.inl ⟨by decide +kernel, rfl⟩⟩
theorem r_10_verdict_58 : RL M_X10_verdict 58 2 59 := Or.inl ⟨2, by decide +kernel, rfl, rfl⟩
theorem r_10_verdict_59 : RC M_X10_verdict 59 2 60 := ⟨⟨by decide, by decide⟩, Or.inl ⟨by decide +kernel, rfl⟩⟩
theorem r_10_verdict_60 : RKv M_X10_verdict M_X10_isBarred 60 3 10 63 := ⟨105, by decide +kernel, wd_m10_105, ok_M_X10_isBarred, wd_s10_isBarred, rfl⟩
theorem r_10_verdict_63 : RB M_X10_verdict 63 (.ifCond .eq) 68 66 := ⟨5, by decide +kernel, rfl, rfl⟩
theorem r_10_verdict_68 : RA M_X10_verdict 68 0 69 := Or.inl ⟨0, by decide +kernel, rfl, rfl⟩
theorem r_10_verdict_69 : RC M_X10_verdict 69 0 70 := ⟨⟨by decide, by decide⟩, Or.inl ⟨by decide +kernel, rfl⟩⟩
theorem r_10_verdict_70 : RL M_X10_verdict 70 1 71 := Or.inl ⟨1, by decide +kernel, rfl, rfl⟩
theorem r_10_verdict_71 : RC M_X10_verdict 71 0 72 := ⟨⟨by decide, by decide⟩, Or.inl ⟨by decide +kernel, rfl⟩⟩
theorem r_10_verdict_72 : RKv M_X10_verdict M_X10_sumWorth 72 3 10 75 := ⟨108, by decide +kernel, wd_m10_108, ok_M_X10_sumWorth, wd_s10_sumWorth, rfl⟩
theorem r_10_verdict_75 : RA M_X10_verdict 75 0 76 := Or.inl ⟨0, by decide +kernel, rfl, rfl⟩
theorem r_10_verdict_76 : RC M_X10_verdict 76 1 77 := ⟨⟨by decide, by decide⟩, Or.inl ⟨by decide +kernel, rfl⟩⟩
theorem r_10_verdict_77 : RL M_X10_verdict 77 2 78 := Or.inl ⟨2, by decide +kernel, rfl, rfl⟩
theorem r_10_verdict_78 : RC M_X10_verdict 78 0 79 := ⟨⟨by decide, by decide⟩, Or.inl ⟨by decide +kernel, rfl⟩⟩
theorem r_10_verdict_79 : RKv M_X10_verdict M_X10_sumWorth 79 3 10 82 := ⟨108, by decide +kernel, wd_m10_108, ok_M_X10_sumWorth, wd_s10_sumWorth, rfl⟩
theorem r_10_verdict_82 : RB M_X10_verdict 82 (.if_icmp .le) 87 85 := ⟨5, by decide +kernel, rfl, rfl⟩
theorem r_10_verdict_87 : RA M_X10_verdict 87 0 88 := Or.inl ⟨0, by decide +kernel, rfl, rfl⟩
theorem r_10_verdict_88 : RC M_X10_verdict 88 1 89 := ⟨⟨by decide, by decide⟩, Or.inl ⟨by decide +kernel, rfl⟩⟩
theorem r_10_verdict_89 : RL M_X10_verdict 89 2 90 := Or.inl ⟨2, by decide +kernel, rfl, rfl⟩
theorem r_10_verdict_90 : RC M_X10_verdict 90 1 91 := ⟨⟨by decide, by decide⟩, Or.inl ⟨by decide +kernel, rfl⟩⟩
theorem r_10_verdict_91 : RKv M_X10_verdict M_X10_sumWorth 91 3 10 94 := ⟨108, by decide +kernel, wd_m10_108, ok_M_X10_sumWorth, wd_s10_sumWorth, rfl⟩
theorem r_10_verdict_94 : RA M_X10_verdict 94 0 95 := Or.inl ⟨0, by decide +kernel, rfl, rfl⟩
theorem r_10_verdict_95 : RC M_X10_verdict 95 0 96 := ⟨⟨by decide, by decide⟩, Or.inl ⟨by decide +kernel, rfl⟩⟩
theorem r_10_verdict_96 : RL M_X10_verdict 96 1 97 := Or.inl ⟨1, by decide +kernel, rfl, rfl⟩
theorem r_10_verdict_97 : RC M_X10_verdict 97 1 98 := ⟨⟨by decide, by decide⟩, Or.inl ⟨by decide +kernel, rfl⟩⟩
theorem r_10_verdict_98 : RKv M_X10_verdict M_X10_sumWorth 98 3 10 101 := ⟨108, by decide +kernel, wd_m10_108, ok_M_X10_sumWorth, wd_s10_sumWorth, rfl⟩
theorem r_10_verdict_101 : RB M_X10_verdict 101 (.if_icmp .le) 106 104 := ⟨5, by decide +kernel, rfl, rfl⟩
theorem r_10_verdict_106 : RA M_X10_verdict 106 0 107 := Or.inl ⟨0, by decide +kernel, rfl, rfl⟩
theorem r_10_verdict_107 : RC M_X10_verdict 107 0 108 := ⟨⟨by decide, by decide⟩, Or.inl ⟨by decide +kernel, rfl⟩⟩
theorem r_10_verdict_108 : RL M_X10_verdict 108 1 109 := Or.inl ⟨1, by decide +kernel, rfl, rfl⟩
theorem r_10_verdict_109 : RKv M_X10_verdict M_X10_partsChild 109 2 10 112 := ⟨112, by decide +kernel, wd_m10_112, ok_M_X10_partsChild, wd_s10_partsChild, rfl⟩
theorem r_10_verdict_112 : RB M_X10_verdict 112 (.ifCond .ne) 124 115 := ⟨12, by decide +kernel, rfl, rfl⟩
theorem r_10_verdict_124 : RC M_X10_verdict 124 5 125 := ⟨⟨by decide, by decide⟩, Or.inl ⟨by decide +kernel, rfl⟩⟩
theorem r_10_verdict_125 : RW M_X10_verdict 125 .ireturn 126 1 := ⟨by decide +kernel, rfl⟩
theorem r_10_verdict_115 : RA M_X10_verdict 115 0 116 := Or.inl ⟨0, by decide +kernel, rfl, rfl⟩
theorem r_10_verdict_116 : RC M_X10_verdict 116 1 117 := ⟨⟨by decide, by decide⟩, Or.inl ⟨by decide +kernel, rfl⟩⟩
theorem r_10_verdict_117 : RL M_X10_verdict 117 2 118 := Or.inl ⟨2, by decide +kernel, rfl, rfl⟩
theorem r_10_verdict_118 : RKv M_X10_verdict M_X10_partsChild 118 2 10 121 := ⟨112, by decide +kernel, wd_m10_112, ok_M_X10_partsChild, wd_s10_partsChild, rfl⟩
theorem r_10_verdict_121 : RB M_X10_verdict 121 (.ifCond .eq) 126 124 := ⟨5, by decide +kernel, rfl, rfl⟩
theorem r_10_verdict_126 : RA M_X10_verdict 126 0 127 := Or.inl ⟨0, by decide +kernel, rfl, rfl⟩
theorem r_10_verdict_127 : RC M_X10_verdict 127 0 128 := ⟨⟨by decide, by decide⟩, Or.inl ⟨by decide +kernel, rfl⟩⟩
theorem r_10_verdict_128 : RL M_X10_verdict 128 1 129 := Or.inl ⟨1, by decide +kernel, rfl, rfl⟩
theorem r_10_verdict_129 : RKv M_X10_verdict M_X10_lacksDoctors 129 2 10 132 := ⟨115, by decide +kernel, wd_m10_115, ok_M_X10_lacksDoctors, wd_s10_lacksDoctors, rfl⟩
theorem r_10_verdict_132 : RB M_X10_verdict 132 (.ifCond .ne) 144 135 := ⟨12, by decide +kernel, rfl, rfl⟩
theorem r_10_verdict_144 : RC M_X10_verdict 144 6 146 := ⟨⟨by decide, by decide⟩, Or.inr (Or.inl ⟨by decide +kernel, by decide, rfl⟩)⟩
theorem r_10_verdict_146 : RB M_X10_verdict 146 .goto 150 149 := ⟨4, by decide +kernel, rfl, rfl⟩
theorem r_10_verdict_150 : RW M_X10_verdict 150 .ireturn 151 1 := ⟨by decide +kernel, rfl⟩
theorem r_10_verdict_135 : RA M_X10_verdict 135 0 136 := Or.inl ⟨0, by decide +kernel, rfl, rfl⟩
theorem r_10_verdict_136 : RC M_X10_verdict 136 1 137 := ⟨⟨by decide, by decide⟩, Or.inl ⟨by decide +kernel, rfl⟩⟩
theorem r_10_verdict_137 : RL M_X10_verdict 137 2 138 := Or.inl ⟨2, by decide +kernel, rfl, rfl⟩
theorem r_10_verdict_138 : RKv M_X10_verdict M_X10_lacksDoctors 138 2 10 141 := ⟨115, by decide +kernel, wd_m10_115, ok_M_X10_lacksDoctors, wd_s10_lacksDoctors, rfl⟩
theorem r_10_verdict_141 : RB M_X10_verdict 141 (.ifCond .eq) 149 144 := ⟨8, by decide +kernel, rfl, rfl⟩
theorem r_10_verdict_149 : RC M_X10_verdict 149 0 150 := ⟨⟨by decide, by decide⟩, Or.inl ⟨by decide +kernel, rfl⟩⟩
theorem r_10_verdict_104 : RC M_X10_verdict 104 4 105 := ⟨⟨by decide, by decide⟩, Or.inl ⟨by decide +kernel, rfl⟩⟩
theorem r_10_verdict_105 : RW M_X10_verdict 105 .ireturn 106 1 := ⟨by decide +kernel, rfl⟩
theorem r_10_verdict_85 : RC M_X10_verdict 85 3 86 := ⟨⟨by decide, by decide⟩, Or.inl ⟨by decide +kernel, rfl⟩⟩
theorem r_10_verdict_86 : RW M_X10_verdict 86 .ireturn 87 1 := ⟨by decide +kernel, rfl⟩
theorem r_11_judge_0 : RA M_X11_judge 0 0 1 := Or.inl ⟨0, by decide +kernel, rfl, rfl⟩
theorem r_11_judge_1 : RG M_X11_judge 1 11 5 4 := ⟨55, _, by decide +kernel, rfl, by decide, wd_f11_55, rfl, rfl⟩
theorem r_11_judge_4 : RL M_X11_judge 4 1 5 := Or.inl ⟨1, by decide +kernel, rfl, rfl⟩
theorem r_11_judge_5 : RL M_X11_judge 5 2 6 := Or.inl ⟨2, by decide +kernel, rfl, rfl⟩
theorem r_11_judge_6 : RKv M_X11_judge M_X10_verdict 6 2 10 9 := ⟨184, by decide +kernel, wd_m11_184, ok_M_X10_verdict, wd_s10_verdict, rfl⟩
theorem r_11_judge_9 : RW M_X11_judge 9 .ireturn 10 1 := ⟨by decide +kernel, rfl⟩
theorem r_J_bitCount_0 : RL M_J_bitCount 0 0 1 := Or.inl ⟨0, by decide +kernel, rfl, rfl⟩
theorem r_J_bitCount_1 : RL M_J_bitCount 1 0 2 := Or.inl ⟨0, by decide +kernel, rfl, rfl⟩
theorem r_J_bitCount_2 : RC M_J_bitCount 2 1 3 := ⟨⟨by decide, by decide⟩, Or.inl ⟨by decide +kernel, rfl⟩⟩
theorem r_J_bitCount_3 : RW M_J_bitCount 3 .iushr 4 1 := ⟨by decide +kernel, rfl⟩
theorem r_J_bitCount_4 : RC M_J_bitCount 4 1431655765 7 := ⟨⟨by decide, by decide⟩, Or.inr (Or.inr (Or.inr (Or.inr ⟨265, by decide +kernel, wd_c20_265, rfl⟩)))⟩
theorem r_J_bitCount_7 : RW M_J_bitCount 7 .iand 8 1 := ⟨by decide +kernel, rfl⟩
theorem r_J_bitCount_8 : RW M_J_bitCount 8 .isub 9 1 := ⟨by decide +kernel, rfl⟩
theorem r_J_bitCount_9 : RS M_J_bitCount 9 0 10 := ⟨by decide, Or.inl ⟨0, by decide +kernel, rfl, rfl⟩⟩
theorem r_J_bitCount_10 : RL M_J_bitCount 10 0 11 := Or.inl ⟨0, by decide +kernel, rfl, rfl⟩
theorem r_J_bitCount_11 : RC M_J_bitCount 11 858993459 14 := ⟨⟨by decide, by decide⟩, Or.inr (Or.inr (Or.inr (Or.inr ⟨266, by decide +kernel, wd_c20_266, rfl⟩)))⟩
theorem r_J_bitCount_14 : RW M_J_bitCount 14 .iand 15 1 := ⟨by decide +kernel, rfl⟩
theorem r_J_bitCount_15 : RL M_J_bitCount 15 0 16 := Or.inl ⟨0, by decide +kernel, rfl, rfl⟩
theorem r_J_bitCount_16 : RC M_J_bitCount 16 2 17 := ⟨⟨by decide, by decide⟩, Or.inl ⟨by decide +kernel, rfl⟩⟩
theorem r_J_bitCount_17 : RW M_J_bitCount 17 .iushr 18 1 := ⟨by decide +kernel, rfl⟩
theorem r_J_bitCount_18 : RC M_J_bitCount 18 858993459 21 := ⟨⟨by decide, by decide⟩, Or.inr (Or.inr (Or.inr (Or.inr ⟨266, by decide +kernel, wd_c20_266, rfl⟩)))⟩
theorem r_J_bitCount_21 : RW M_J_bitCount 21 .iand 22 1 := ⟨by decide +kernel, rfl⟩
theorem r_J_bitCount_22 : RW M_J_bitCount 22 .iadd 23 1 := ⟨by decide +kernel, rfl⟩
theorem r_J_bitCount_23 : RS M_J_bitCount 23 0 24 := ⟨by decide, Or.inl ⟨0, by decide +kernel, rfl, rfl⟩⟩
theorem r_J_bitCount_24 : RL M_J_bitCount 24 0 25 := Or.inl ⟨0, by decide +kernel, rfl, rfl⟩
theorem r_J_bitCount_25 : RL M_J_bitCount 25 0 26 := Or.inl ⟨0, by decide +kernel, rfl, rfl⟩
theorem r_J_bitCount_26 : RC M_J_bitCount 26 4 27 := ⟨⟨by decide, by decide⟩, Or.inl ⟨by decide +kernel, rfl⟩⟩
theorem r_J_bitCount_27 : RW M_J_bitCount 27 .iushr 28 1 := ⟨by decide +kernel, rfl⟩
theorem r_J_bitCount_28 : RW M_J_bitCount 28 .iadd 29 1 := ⟨by decide +kernel, rfl⟩
theorem r_J_bitCount_29 : RC M_J_bitCount 29 252645135 32 := ⟨⟨by decide, by decide⟩, Or.inr (Or.inr (Or.inr (Or.inr ⟨267, by decide +kernel, wd_c20_267, rfl⟩)))⟩
theorem r_J_bitCount_32 : RW M_J_bitCount 32 .iand 33 1 := ⟨by decide +kernel, rfl⟩
theorem r_J_bitCount_33 : RS M_J_bitCount 33 0 34 := ⟨by decide, Or.inl ⟨0, by decide +kernel, rfl, rfl⟩⟩
theorem r_J_bitCount_34 : RL M_J_bitCount 34 0 35 := Or.inl ⟨0, by decide +kernel, rfl, rfl⟩
theorem r_J_bitCount_35 : RL M_J_bitCount 35 0 36 := Or.inl ⟨0, by decide +kernel, rfl, rfl⟩
theorem r_J_bitCount_36 : RC M_J_bitCount 36 8 38 := ⟨⟨by decide, by decide⟩, Or.inr (Or.inl ⟨by decide +kernel, by decide, rfl⟩)⟩
theorem r_J_bitCount_38 : RW M_J_bitCount 38 .iushr 39 1 := ⟨by decide +kernel, rfl⟩
theorem r_J_bitCount_39 : RW M_J_bitCount 39 .iadd 40 1 := ⟨by decide +kernel, rfl⟩
theorem r_J_bitCount_40 : RS M_J_bitCount 40 0 41 := ⟨by decide, Or.inl ⟨0, by decide +kernel, rfl, rfl⟩⟩
theorem r_J_bitCount_41 : RL M_J_bitCount 41 0 42 := Or.inl ⟨0, by decide +kernel, rfl, rfl⟩
theorem r_J_bitCount_42 : RL M_J_bitCount 42 0 43 := Or.inl ⟨0, by decide +kernel, rfl, rfl⟩
theorem r_J_bitCount_43 : RC M_J_bitCount 43 16 45 := ⟨⟨by decide, by decide⟩, Or.inr (Or.inl ⟨by decide +kernel, by decide, rfl⟩)⟩
theorem r_J_bitCount_45 : RW M_J_bitCount 45 .iushr 46 1 := ⟨by decide +kernel, rfl⟩
theorem r_J_bitCount_46 : RW M_J_bitCount 46 .iadd 47 1 := ⟨by decide +kernel, rfl⟩
theorem r_J_bitCount_47 : RS M_J_bitCount 47 0 48 := ⟨by decide, Or.inl ⟨0, by decide +kernel, rfl, rfl⟩⟩
theorem r_J_bitCount_48 : RL M_J_bitCount 48 0 49 := Or.inl ⟨0, by decide +kernel, rfl, rfl⟩
theorem r_J_bitCount_49 : RC M_J_bitCount 49 63 51 := ⟨⟨by decide, by decide⟩, Or.inr (Or.inl ⟨by decide +kernel, by decide, rfl⟩)⟩
theorem r_J_bitCount_51 : RW M_J_bitCount 51 .iand 52 1 := ⟨by decide +kernel, rfl⟩
theorem r_J_bitCount_52 : RW M_J_bitCount 52 .ireturn 53 1 := ⟨by decide +kernel, rfl⟩
set_option maxRecDepth 10000 in
theorem sp_X10_verdict {l : Launch} {w : Wo} {d : Nat} {G : PH} {P : Option PV → PH → Prop} {set0 set1 : Int} {ST : Int → Int → Int → Prop} {WT : Int → Int → Int → Int → Int} {SD : Int → Int → Int → Int → Int → Int × Int} {FC : Int → Int → Int → Int} {KC : Int → Int → Int → Int → Int} (hp : ∀ i, 0 ≤ i → i < (gF G 1 0 1) → gD G 30 0 i = some (3, i)) (hsz : 0 ≤ (gF G 1 0 1) ∧ (gF G 1 0 1) ≤ 150) (hf : 0 ≤ (gF G 9 0 0) ∧ (gF G 9 0 0) ≤ 300) (hpr : 0 ≤ (gF G 9 0 2) ∧ (gF G 9 0 2) ≤ 40) (htx : 0 ≤ (gF G 8 0 0) ∧ (gF G 8 0 0) ≤ 20) (hTX : txC G) (hSD : sdC G = SD) (hFC : fcC G = FC) (hKC : kC G = KC) (hnA : ∀ i, 0 ≤ i → i < (gF G 1 0 1) → (gF G 3 (i) 0) = i) (hcA : ∀ i, 0 ≤ i → i < (gF G 1 0 1) → 0 ≤ (gF G 3 (i) 5) ∧ (gF G 3 (i) 5) ≤ 600) (hsA : ∀ i, 0 ≤ i → i < (gF G 1 0 1) → 0 ≤ (gF G 3 (i) 2) ∧ (gF G 3 (i) 2) ≤ 1) (hlv : ∀ la i, 0 ≤ la → la < 2 → 0 ≤ i → i < (gA G 94 0 (la)) → 0 ≤ (gA G 93 (la) (i)) ∧ (gA G 93 (la) (i)) < (gF G 1 0 1)) (hdi : ∀ la i j, 0 ≤ la → la < 2 → 0 ≤ i → i < j → j < (gA G 94 0 (la)) → (gA G 93 (la) (i)) ≠ (gA G 93 (la) (j))) (hof : ∀ la, 0 ≤ la → la < 2 → 0 ≤ (gA G 94 0 (la)) ∧ (gA G 94 0 (la)) ≤ 7) (hdd : 0 ≤ (gF G 1 0 2) ∧ (gF G 1 0 2) ≤ 600) (hr : 1 ≤ (gF G 10 0 5) ∧ (gF G 10 0 5) ≤ 99) (hST : stC G = ST) (hWT : wtC G = WT) (h1 : ¬ ((0 ≤ set0 ∧ set0 < pShl 1 (gA G 94 0 (0))) ∧ 0 ≤ set1 ∧ set1 < pShl 1 (gA G 94 0 (1))) → P (some (vI (-1))) G) (h2 : ((0 ≤ set0 ∧ set0 < pShl 1 (gA G 94 0 (0))) ∧ 0 ≤ set1 ∧ set1 < pShl 1 (gA G 94 0 (1))) → ∀ g : WQ, P (some (vI (vdC G ST WT set0 set1))) (wghC G g)) : PW l w M_X10_verdict (d + 131) 0 [some (vR 10 (0)), some (vI (set0)), some (vI (set1))] [] G P := by
  refine pw_aload r_10_verdict_0 rfl ?_
  refine pw_const r_10_verdict_1 ?_
  refine pw_iload r_10_verdict_2 rfl ?_
  refine pw_callV (av := [vI (0), vI (set0)]) (st := []) (ls0 := [some (vR 10 (0)), some (vI (0)), some (vI (set0))]) r_10_verdict_3 rfl rfl rfl (Nat.le_refl _) ?_
  refine sp_X10_isSetOf (by decide) ?_
  refine pw_if_eqB r_10_verdict_6 (fun h06 => ?_) (fun h06 => ?_)
  · skip
    refine pw_const r_10_verdict_18 ?_
    refine pw_iret r_10_verdict_19 rfl (Nat.le_refl _) ⟨rfl, ?_⟩
    first | exact h1 (fun z => h06 z.1) | exact h1 (fun z => h15 z.2)
  · skip
    refine pw_aload r_10_verdict_9 rfl ?_
    refine pw_const r_10_verdict_10 ?_
    refine pw_iload r_10_verdict_11 rfl ?_
    refine pw_callV (av := [vI (1), vI (set1)]) (st := []) (ls0 := [some (vR 10 (0)), some (vI (1)), some (vI (set1))]) r_10_verdict_12 rfl rfl rfl (Nat.le_refl _) ?_
    refine sp_X10_isSetOf (by decide) ?_
    refine pw_if_neB r_10_verdict_15 (fun h15 => ?_) (fun h15 => ?_)
    · skip
      refine pw_aload r_10_verdict_20 rfl ?_
      refine pw_callV (av := []) (st := []) (ls0 := [some (vR 10 (0)), none, none, none, none]) r_10_verdict_21 rfl rfl rfl (Nat.le_refl _) ?_
      refine sp_X10_weigh (SD := SD) (FC := FC) (KC := KC) (ST := ST) (WT := WT) (by exact hp) (by exact hsz) (by exact hf) (by exact hpr) (by exact htx) (by exact hTX) (by exact hSD) (by exact hFC) (by exact hKC) (by exact hnA) (by exact hcA) (by exact hsA) (hlv) (hof) (hdd) (hST) (hWT) ?_
      intro g9 hg9 hw9
      refine pw_aload r_10_verdict_24 rfl ?_
      refine pw_const r_10_verdict_25 ?_
      refine pw_iload r_10_verdict_26 rfl ?_
      refine pw_const r_10_verdict_27 ?_
      refine pw_callV (av := [vI (0), vI (set0), vI (1)]) (st := []) (ls0 := [some (vR 10 (0)), some (vI (0)), some (vI (set0)), some (vI (1)), none]) r_10_verdict_28 rfl rfl rfl (Nat.le_refl _) ?_
      refine sp_X10_isBarred (by decide) (by exact hof 0 (by decide) (by decide)) ?_
      refine pw_top (b := b2i (∃ i, 0 ≤ i ∧ i < (gA G 94 (0) (0)) ∧ bt set0 i ∧ (gA (wghC G g9) 97 (0) (i)) = 1)) (by first | rfl | simp (disch := decide) [gF_sF, gF_sA, gF_uA, gF_sD, gA_sF, gA_sA, gA_uA, gA_sD, gD_sF, gD_sA, gD_uA, gD_sD]) ?_
      refine pw_top (b := b2i (awC G 0 set0)) (b2i_iff (bar_aw (bars := g9.2.2.2.1) (wor := g9.2.2.2.2) (fun i a b => hw9 0 i (by decide) (by decide) a b))) ?_
      refine pw_if_neB r_10_verdict_31 (fun h31 => ?_) (fun h31 => ?_)
      · skip
        refine pw_const r_10_verdict_44 ?_
        refine pw_iret r_10_verdict_45 rfl (Nat.le_refl _) ⟨rfl, ?_⟩
        exact pe (h2 ⟨h06, h15⟩ g9) (by first | exact (vd_1 (Or.inl h31)).symm | exact (vd_1 (Or.inr h41)).symm)
      · skip
        refine pw_aload r_10_verdict_34 rfl ?_
        refine pw_const r_10_verdict_35 ?_
        refine pw_iload r_10_verdict_36 rfl ?_
        refine pw_const r_10_verdict_37 ?_
        refine pw_callV (av := [vI (1), vI (set1), vI (1)]) (st := []) (ls0 := [some (vR 10 (0)), some (vI (1)), some (vI (set1)), some (vI (1)), none]) r_10_verdict_38 rfl rfl rfl (Nat.le_refl _) ?_
        refine sp_X10_isBarred (by decide) (by exact hof 1 (by decide) (by decide)) ?_
        refine pw_top (b := b2i (∃ i, 0 ≤ i ∧ i < (gA G 94 (0) (1)) ∧ bt set1 i ∧ (gA (wghC G g9) 97 (1) (i)) = 1)) (by first | rfl | simp (disch := decide) [gF_sF, gF_sA, gF_uA, gF_sD, gA_sF, gA_sA, gA_uA, gA_sD, gD_sF, gD_sA, gD_uA, gD_sD]) ?_
        refine pw_top (b := b2i (awC G 1 set1)) (b2i_iff (bar_aw (bars := g9.2.2.2.1) (wor := g9.2.2.2.2) (fun i a b => hw9 1 i (by decide) (by decide) a b))) ?_
        refine pw_if_eqB r_10_verdict_41 (fun h41 => ?_) (fun h41 => ?_)
        · skip
          refine pw_aload r_10_verdict_46 rfl ?_
          refine pw_const r_10_verdict_47 ?_
          refine pw_iload r_10_verdict_48 rfl ?_
          refine pw_const r_10_verdict_49 ?_
          refine pw_callV (av := [vI (0), vI (set0), vI (2)]) (st := []) (ls0 := [some (vR 10 (0)), some (vI (0)), some (vI (set0)), some (vI (2)), none]) r_10_verdict_50 rfl rfl rfl (Nat.le_refl _) ?_
          refine sp_X10_isBarred (by decide) (by exact hof 0 (by decide) (by decide)) ?_
          refine pw_top (b := b2i (∃ i, 0 ≤ i ∧ i < (gA G 94 (0) (0)) ∧ bt set0 i ∧ (gA (wghC G g9) 97 (0) (i)) = 2)) (by first | rfl | simp (disch := decide) [gF_sF, gF_sA, gF_uA, gF_sD, gA_sF, gA_sA, gA_uA, gA_sD, gD_sF, gD_sA, gD_uA, gD_sD]) ?_
          refine pw_top (b := b2i (syC G ST 0 set0)) (b2i_iff (bar_sy (bars := g9.2.2.2.1) (wor := g9.2.2.2.2) (fun i a b => hw9 0 i (by decide) (by decide) a b) h31)) ?_
          refine pw_if_neB r_10_verdict_53 (fun h53 => ?_) (fun h53 => ?_)
          · skip
            refine pw_const r_10_verdict_66 ?_
            refine pw_iret r_10_verdict_67 rfl (Nat.le_refl _) ⟨rfl, ?_⟩
            exact pe (h2 ⟨h06, h15⟩ g9) (by first | exact (vd_2 (nor h31 h41) (Or.inl h53)).symm | exact (vd_2 (nor h31 h41) (Or.inr h63)).symm)
          · skip
            refine pw_aload r_10_verdict_56 rfl ?_
            refine pw_const r_10_verdict_57 ?_
            refine pw_iload r_10_verdict_58 rfl ?_
            refine pw_const r_10_verdict_59 ?_
            refine pw_callV (av := [vI (1), vI (set1), vI (2)]) (st := []) (ls0 := [some (vR 10 (0)), some (vI (1)), some (vI (set1)), some (vI (2)), none]) r_10_verdict_60 rfl rfl rfl (Nat.le_refl _) ?_
            refine sp_X10_isBarred (by decide) (by exact hof 1 (by decide) (by decide)) ?_
            refine pw_top (b := b2i (∃ i, 0 ≤ i ∧ i < (gA G 94 (0) (1)) ∧ bt set1 i ∧ (gA (wghC G g9) 97 (1) (i)) = 2)) (by first | rfl | simp (disch := decide) [gF_sF, gF_sA, gF_uA, gF_sD, gA_sF, gA_sA, gA_uA, gA_sD, gD_sF, gD_sA, gD_uA, gD_sD]) ?_
            refine pw_top (b := b2i (syC G ST 1 set1)) (b2i_iff (bar_sy (bars := g9.2.2.2.1) (wor := g9.2.2.2.2) (fun i a b => hw9 1 i (by decide) (by decide) a b) h41)) ?_
            refine pw_if_eqB r_10_verdict_63 (fun h63 => ?_) (fun h63 => ?_)
            · skip
              refine pw_aload r_10_verdict_68 rfl ?_
              refine pw_const r_10_verdict_69 ?_
              refine pw_iload r_10_verdict_70 rfl ?_
              refine pw_const r_10_verdict_71 ?_
              refine pw_callV (av := [vI (0), vI (set0), vI (0)]) (st := []) (ls0 := [some (vR 10 (0)), some (vI (0)), some (vI (set0)), some (vI (0)), none, none]) r_10_verdict_72 rfl rfl rfl (Nat.le_refl _) ?_
              refine sp_X10_sumWorth (by decide) (by exact hof 0 (by decide) (by decide)) (by decide) ?_
              refine pw_top (b := smF (gA (wghC G g9) 99 (2 * 0 + 0)) set0 (gA G 94 (0) (0))) (by first | rfl | simp (disch := decide) [gF_sF, gF_sA, gF_uA, gF_sD, gA_sF, gA_sA, gA_uA, gA_sD, gD_sF, gD_sA, gD_uA, gD_sD]) ?_
              refine pw_top (b := wfC G WT 0 0 set0) (sum_w0 (bars := g9.2.2.2.1) (wor := g9.2.2.2.2) (fun i a b => hw9 0 i (by decide) (by decide) a b) (hof 0 (by decide) (by decide)).1 h31) ?_
              refine pw_aload r_10_verdict_75 rfl ?_
              refine pw_const r_10_verdict_76 ?_
              refine pw_iload r_10_verdict_77 rfl ?_
              refine pw_const r_10_verdict_78 ?_
              refine pw_callV (av := [vI (1), vI (set1), vI (0)]) (st := [vI (wfC G WT 0 0 set0)]) (ls0 := [some (vR 10 (0)), some (vI (1)), some (vI (set1)), some (vI (0)), none, none]) r_10_verdict_79 rfl rfl rfl (Nat.le_refl _) ?_
              refine sp_X10_sumWorth (by decide) (by exact hof 1 (by decide) (by decide)) (by decide) ?_
              refine pw_top (b := smF (gA (wghC G g9) 99 (2 * 1 + 0)) set1 (gA G 94 (0) (1))) (by first | rfl | simp (disch := decide) [gF_sF, gF_sA, gF_uA, gF_sD, gA_sF, gA_sA, gA_uA, gA_sD, gD_sF, gD_sA, gD_uA, gD_sD]) ?_
              refine pw_top (b := wfC G WT 1 0 set1) (sum_w0 (bars := g9.2.2.2.1) (wor := g9.2.2.2.2) (fun i a b => hw9 1 i (by decide) (by decide) a b) (hof 1 (by decide) (by decide)).1 h41) ?_
              refine pw_icmp_le r_10_verdict_82 (fun h82 => ?_) (fun h82 => ?_)
              · skip
                refine pw_aload r_10_verdict_87 rfl ?_
                refine pw_const r_10_verdict_88 ?_
                refine pw_iload r_10_verdict_89 rfl ?_
                refine pw_const r_10_verdict_90 ?_
                refine pw_callV (av := [vI (1), vI (set1), vI (1)]) (st := []) (ls0 := [some (vR 10 (0)), some (vI (1)), some (vI (set1)), some (vI (1)), none, none]) r_10_verdict_91 rfl rfl rfl (Nat.le_refl _) ?_
                refine sp_X10_sumWorth (by decide) (by exact hof 1 (by decide) (by decide)) (by decide) ?_
                refine pw_top (b := smF (gA (wghC G g9) 99 (2 * 1 + 1)) set1 (gA G 94 (0) (1))) (by first | rfl | simp (disch := decide) [gF_sF, gF_sA, gF_uA, gF_sD, gA_sF, gA_sA, gA_uA, gA_sD, gD_sF, gD_sA, gD_uA, gD_sD]) ?_
                refine pw_top (b := wfC G WT 1 1 set1) (sum_w1 (bars := g9.2.2.2.1) (wor := g9.2.2.2.2) (fun i a b => hw9 1 i (by decide) (by decide) a b) (hof 1 (by decide) (by decide)).1 h41) ?_
                refine pw_aload r_10_verdict_94 rfl ?_
                refine pw_const r_10_verdict_95 ?_
                refine pw_iload r_10_verdict_96 rfl ?_
                refine pw_const r_10_verdict_97 ?_
                refine pw_callV (av := [vI (0), vI (set0), vI (1)]) (st := [vI (wfC G WT 1 1 set1)]) (ls0 := [some (vR 10 (0)), some (vI (0)), some (vI (set0)), some (vI (1)), none, none]) r_10_verdict_98 rfl rfl rfl (Nat.le_refl _) ?_
                refine sp_X10_sumWorth (by decide) (by exact hof 0 (by decide) (by decide)) (by decide) ?_
                refine pw_top (b := smF (gA (wghC G g9) 99 (2 * 0 + 1)) set0 (gA G 94 (0) (0))) (by first | rfl | simp (disch := decide) [gF_sF, gF_sA, gF_uA, gF_sD, gA_sF, gA_sA, gA_uA, gA_sD, gD_sF, gD_sA, gD_uA, gD_sD]) ?_
                refine pw_top (b := wfC G WT 0 1 set0) (sum_w1 (bars := g9.2.2.2.1) (wor := g9.2.2.2.2) (fun i a b => hw9 0 i (by decide) (by decide) a b) (hof 0 (by decide) (by decide)).1 h31) ?_
                refine pw_icmp_le r_10_verdict_101 (fun h101 => ?_) (fun h101 => ?_)
                · skip
                  refine pw_aload r_10_verdict_106 rfl ?_
                  refine pw_const r_10_verdict_107 ?_
                  refine pw_iload r_10_verdict_108 rfl ?_
                  refine pw_callV (av := [vI (0), vI (set0)]) (st := []) (ls0 := [some (vR 10 (0)), some (vI (0)), some (vI (set0)), none, none, none]) r_10_verdict_109 rfl rfl rfl (Nat.le_refl _) ?_
                  refine sp_X10_partsChild (by exact hp) (by exact hsz) (by decide) (by exact hof 0 (by decide) (by decide)) (by exact fun i a b => hlv 0 i (by decide) (by decide) a b) (by exact fun i j a b c => hdi 0 i j (by decide) (by decide) a b c) ?_
                  refine pw_top (b := b2i (∃ i, 0 ≤ i ∧ i < (gA G 94 (0) (0)) ∧ (0 ≤ (gF G 3 ((gA G 93 (0) (i))) 4) ∧ ∃ j, 0 ≤ j ∧ j < (gA G 94 (0) (0)) ∧ (gA G 93 (0) (j)) = (gF G 3 ((gA G 93 (0) (i))) 4) ∧ ¬ (bt set0 i ↔ bt set0 j)))) (by first | rfl | simp (disch := decide) [gF_sF, gF_sA, gF_uA, gF_sD, gA_sF, gA_sA, gA_uA, gA_sD, gD_sF, gD_sA, gD_uA, gD_sD]) ?_
                  refine pw_top (b := b2i (pcC G 0 set0)) (b2i_iff (Iff.rfl)) ?_
                  refine pw_if_neB r_10_verdict_112 (fun h112 => ?_) (fun h112 => ?_)
                  · skip
                    refine pw_const r_10_verdict_124 ?_
                    refine pw_iret r_10_verdict_125 rfl (Nat.le_refl _) ⟨rfl, ?_⟩
                    exact pe (h2 ⟨h06, h15⟩ g9) (by first | exact (vd_5 (nor h31 h41) (nor h53 h63) (by omega) (by omega) (Or.inl h112)).symm | exact (vd_5 (nor h31 h41) (nor h53 h63) (by omega) (by omega) (Or.inr h121)).symm)
                  · skip
                    refine pw_aload r_10_verdict_115 rfl ?_
                    refine pw_const r_10_verdict_116 ?_
                    refine pw_iload r_10_verdict_117 rfl ?_
                    refine pw_callV (av := [vI (1), vI (set1)]) (st := []) (ls0 := [some (vR 10 (0)), some (vI (1)), some (vI (set1)), none, none, none]) r_10_verdict_118 rfl rfl rfl (Nat.le_refl _) ?_
                    refine sp_X10_partsChild (by exact hp) (by exact hsz) (by decide) (by exact hof 1 (by decide) (by decide)) (by exact fun i a b => hlv 1 i (by decide) (by decide) a b) (by exact fun i j a b c => hdi 1 i j (by decide) (by decide) a b c) ?_
                    refine pw_top (b := b2i (∃ i, 0 ≤ i ∧ i < (gA G 94 (0) (1)) ∧ (0 ≤ (gF G 3 ((gA G 93 (1) (i))) 4) ∧ ∃ j, 0 ≤ j ∧ j < (gA G 94 (0) (1)) ∧ (gA G 93 (1) (j)) = (gF G 3 ((gA G 93 (1) (i))) 4) ∧ ¬ (bt set1 i ↔ bt set1 j)))) (by first | rfl | simp (disch := decide) [gF_sF, gF_sA, gF_uA, gF_sD, gA_sF, gA_sA, gA_uA, gA_sD, gD_sF, gD_sA, gD_uA, gD_sD]) ?_
                    refine pw_top (b := b2i (pcC G 1 set1)) (b2i_iff (Iff.rfl)) ?_
                    refine pw_if_eqB r_10_verdict_121 (fun h121 => ?_) (fun h121 => ?_)
                    · skip
                      refine pw_aload r_10_verdict_126 rfl ?_
                      refine pw_const r_10_verdict_127 ?_
                      refine pw_iload r_10_verdict_128 rfl ?_
                      refine pw_callV (av := [vI (0), vI (set0)]) (st := []) (ls0 := [some (vR 10 (0)), some (vI (0)), some (vI (set0)), none, none, none, none, none]) r_10_verdict_129 rfl rfl rfl (Nat.le_refl _) ?_
                      refine sp_X10_lacksDoctors (by exact hp) (by exact hsz) (by decide) (by exact hof 0 (by decide) (by decide)) (by exact fun i a b => hlv 0 i (by decide) (by decide) a b) (by exact hr) (by intro c a b; have h1 := hg9 c a b; have h2 := cg_in (G := G) hsz.1 c; have h3 := ci_in (G := G) hsz.1 c 1; show (0 ≤ g9.2.1 c ∧ g9.2.1 c ≤ 150) ∧ 0 ≤ g9.2.2.1 c ∧ g9.2.2.1 c ≤ 150; omega) ?_
                      refine pw_top (b := b2i (∃ c, 0 ≤ c ∧ c < 16 ∧ ((gA (wghC G g9) 101 (0) (c)) - cnt (fun i => (bt set0 i ∧ ((gF G 3 ((gA G 93 (0) (i))) 8) = 0 ∧ (gF G 3 ((gA G 93 (0) (i))) 10) = c)) ∧ (gF G 3 ((gA G 93 (0) (i))) 1) = 3) (gA G 94 (0) (0)) < min (pDiv ((gA (wghC G g9) 100 (0) (c)) - cnt (fun i => (bt set0 i ∧ ((gF G 3 ((gA G 93 (0) (i))) 8) = 0 ∧ (gF G 3 ((gA G 93 (0) (i))) 10) = c)) ∧ 0 < (gF G 3 ((gA G 93 (0) (i))) 6)) (gA G 94 (0) (0)) + (gF G 10 (0) 5) - 1) (gF G 10 (0) 5)) (gA (wghC G g9) 101 (0) (c))))) (by first | rfl | simp (disch := decide) [gF_sF, gF_sA, gF_uA, gF_sD, gA_sF, gA_sA, gA_uA, gA_sD, gD_sF, gD_sA, gD_uA, gD_sD]) ?_
                      refine pw_top (b := b2i (ldC G 0 set0)) (b2i_iff (ld_iff (gr := g9.2.1) (dr := g9.2.2.1) hg9)) ?_
                      refine pw_if_neB r_10_verdict_132 (fun h132 => ?_) (fun h132 => ?_)
                      · skip
                        refine pw_const r_10_verdict_144 ?_
                        refine pw_goto r_10_verdict_146 ?_
                        refine pw_iret r_10_verdict_150 rfl (Nat.le_refl _) ⟨rfl, ?_⟩
                        exact pe (h2 ⟨h06, h15⟩ g9) (by first | exact (vd_6 (nor h31 h41) (nor h53 h63) (by omega) (by omega) (nor h112 h121) (Or.inl h132)).symm | exact (vd_6 (nor h31 h41) (nor h53 h63) (by omega) (by omega) (nor h112 h121) (Or.inr h141)).symm)
                      · skip
                        refine pw_aload r_10_verdict_135 rfl ?_
                        refine pw_const r_10_verdict_136 ?_
                        refine pw_iload r_10_verdict_137 rfl ?_
                        refine pw_callV (av := [vI (1), vI (set1)]) (st := []) (ls0 := [some (vR 10 (0)), some (vI (1)), some (vI (set1)), none, none, none, none, none]) r_10_verdict_138 rfl rfl rfl (Nat.le_refl _) ?_
                        refine sp_X10_lacksDoctors (by exact hp) (by exact hsz) (by decide) (by exact hof 1 (by decide) (by decide)) (by exact fun i a b => hlv 1 i (by decide) (by decide) a b) (by exact hr) (by intro c a b; have h1 := hg9 c a b; have h2 := cg_in (G := G) hsz.1 c; have h3 := ci_in (G := G) hsz.1 c 1; show (0 ≤ g9.2.1 c ∧ g9.2.1 c ≤ 150) ∧ 0 ≤ g9.2.2.1 c ∧ g9.2.2.1 c ≤ 150; omega) ?_
                        refine pw_top (b := b2i (∃ c, 0 ≤ c ∧ c < 16 ∧ ((gA (wghC G g9) 101 (0) (c)) - cnt (fun i => (bt set1 i ∧ ((gF G 3 ((gA G 93 (1) (i))) 8) = 0 ∧ (gF G 3 ((gA G 93 (1) (i))) 10) = c)) ∧ (gF G 3 ((gA G 93 (1) (i))) 1) = 3) (gA G 94 (0) (1)) < min (pDiv ((gA (wghC G g9) 100 (0) (c)) - cnt (fun i => (bt set1 i ∧ ((gF G 3 ((gA G 93 (1) (i))) 8) = 0 ∧ (gF G 3 ((gA G 93 (1) (i))) 10) = c)) ∧ 0 < (gF G 3 ((gA G 93 (1) (i))) 6)) (gA G 94 (0) (1)) + (gF G 10 (0) 5) - 1) (gF G 10 (0) 5)) (gA (wghC G g9) 101 (0) (c))))) (by first | rfl | simp (disch := decide) [gF_sF, gF_sA, gF_uA, gF_sD, gA_sF, gA_sA, gA_uA, gA_sD, gD_sF, gD_sA, gD_uA, gD_sD]) ?_
                        refine pw_top (b := b2i (ldC G 1 set1)) (b2i_iff (ld_iff (gr := g9.2.1) (dr := g9.2.2.1) hg9)) ?_
                        refine pw_if_eqB r_10_verdict_141 (fun h141 => ?_) (fun h141 => ?_)
                        · skip
                          refine pw_const r_10_verdict_149 ?_
                          refine pw_iret r_10_verdict_150 rfl (Nat.le_refl _) ⟨rfl, ?_⟩
                          exact pe (h2 ⟨h06, h15⟩ g9) (vd_0 (nor h31 h41) (nor h53 h63) (by omega) (by omega) (nor h112 h121) (nor h132 h141)).symm
                        · skip
                          refine pw_const r_10_verdict_144 ?_
                          refine pw_goto r_10_verdict_146 ?_
                          refine pw_iret r_10_verdict_150 rfl (Nat.le_refl _) ⟨rfl, ?_⟩
                          exact pe (h2 ⟨h06, h15⟩ g9) (by first | exact (vd_6 (nor h31 h41) (nor h53 h63) (by omega) (by omega) (nor h112 h121) (Or.inl h132)).symm | exact (vd_6 (nor h31 h41) (nor h53 h63) (by omega) (by omega) (nor h112 h121) (Or.inr h141)).symm)
                    · skip
                      refine pw_const r_10_verdict_124 ?_
                      refine pw_iret r_10_verdict_125 rfl (Nat.le_refl _) ⟨rfl, ?_⟩
                      exact pe (h2 ⟨h06, h15⟩ g9) (by first | exact (vd_5 (nor h31 h41) (nor h53 h63) (by omega) (by omega) (Or.inl h112)).symm | exact (vd_5 (nor h31 h41) (nor h53 h63) (by omega) (by omega) (Or.inr h121)).symm)
                · skip
                  refine pw_const r_10_verdict_104 ?_
                  refine pw_iret r_10_verdict_105 rfl (Nat.le_refl _) ⟨rfl, ?_⟩
                  exact pe (h2 ⟨h06, h15⟩ g9) (vd_4 (nor h31 h41) (nor h53 h63) (by omega) (by omega)).symm
              · skip
                refine pw_const r_10_verdict_85 ?_
                refine pw_iret r_10_verdict_86 rfl (Nat.le_refl _) ⟨rfl, ?_⟩
                exact pe (h2 ⟨h06, h15⟩ g9) (vd_3 (nor h31 h41) (nor h53 h63) (by omega)).symm
            · skip
              refine pw_const r_10_verdict_66 ?_
              refine pw_iret r_10_verdict_67 rfl (Nat.le_refl _) ⟨rfl, ?_⟩
              exact pe (h2 ⟨h06, h15⟩ g9) (by first | exact (vd_2 (nor h31 h41) (Or.inl h53)).symm | exact (vd_2 (nor h31 h41) (Or.inr h63)).symm)
        · skip
          refine pw_const r_10_verdict_44 ?_
          refine pw_iret r_10_verdict_45 rfl (Nat.le_refl _) ⟨rfl, ?_⟩
          exact pe (h2 ⟨h06, h15⟩ g9) (by first | exact (vd_1 (Or.inl h31)).symm | exact (vd_1 (Or.inr h41)).symm)
    · skip
      refine pw_const r_10_verdict_18 ?_
      refine pw_iret r_10_verdict_19 rfl (Nat.le_refl _) ⟨rfl, ?_⟩
      first | exact h1 (fun z => h06 z.1) | exact h1 (fun z => h15 z.2)
set_option maxRecDepth 10000 in
theorem sp_X11_judge {l : Launch} {w : Wo} {d : Nat} {G : PH} {P : Option PV → PH → Prop} {set0 set1 : Int} {ST : Int → Int → Int → Prop} {WT : Int → Int → Int → Int → Int} {SD : Int → Int → Int → Int → Int → Int × Int} {FC : Int → Int → Int → Int} {KC : Int → Int → Int → Int → Int} (hp : ∀ i, 0 ≤ i → i < (gF G 1 0 1) → gD G 30 0 i = some (3, i)) (hsz : 0 ≤ (gF G 1 0 1) ∧ (gF G 1 0 1) ≤ 150) (hf : 0 ≤ (gF G 9 0 0) ∧ (gF G 9 0 0) ≤ 300) (hpr : 0 ≤ (gF G 9 0 2) ∧ (gF G 9 0 2) ≤ 40) (htx : 0 ≤ (gF G 8 0 0) ∧ (gF G 8 0 0) ≤ 20) (hTX : txC G) (hSD : sdC G = SD) (hFC : fcC G = FC) (hKC : kC G = KC) (hnA : ∀ i, 0 ≤ i → i < (gF G 1 0 1) → (gF G 3 (i) 0) = i) (hcA : ∀ i, 0 ≤ i → i < (gF G 1 0 1) → 0 ≤ (gF G 3 (i) 5) ∧ (gF G 3 (i) 5) ≤ 600) (hsA : ∀ i, 0 ≤ i → i < (gF G 1 0 1) → 0 ≤ (gF G 3 (i) 2) ∧ (gF G 3 (i) 2) ≤ 1) (hlv : ∀ la i, 0 ≤ la → la < 2 → 0 ≤ i → i < (gA G 94 0 (la)) → 0 ≤ (gA G 93 (la) (i)) ∧ (gA G 93 (la) (i)) < (gF G 1 0 1)) (hdi : ∀ la i j, 0 ≤ la → la < 2 → 0 ≤ i → i < j → j < (gA G 94 0 (la)) → (gA G 93 (la) (i)) ≠ (gA G 93 (la) (j))) (hof : ∀ la, 0 ≤ la → la < 2 → 0 ≤ (gA G 94 0 (la)) ∧ (gA G 94 0 (la)) ≤ 7) (hdd : 0 ≤ (gF G 1 0 2) ∧ (gF G 1 0 2) ≤ 600) (hr : 1 ≤ (gF G 10 0 5) ∧ (gF G 10 0 5) ≤ 99) (hST : stC G = ST) (hWT : wtC G = WT) (h1 : ¬ ((0 ≤ set0 ∧ set0 < pShl 1 (gA G 94 0 (0))) ∧ 0 ≤ set1 ∧ set1 < pShl 1 (gA G 94 0 (1))) → P (some (vI (-1))) G) (h2 : ((0 ≤ set0 ∧ set0 < pShl 1 (gA G 94 0 (0))) ∧ 0 ≤ set1 ∧ set1 < pShl 1 (gA G 94 0 (1))) → ∀ g : WQ, P (some (vI (vdC G ST WT set0 set1))) (wghC G g)) : PW l w M_X11_judge (d + 132) 0 [some (vR 11 (0)), some (vI (set0)), some (vI (set1))] [] G P := by
  refine pw_aload r_11_judge_0 rfl ?_
  refine pw_getR r_11_judge_1 fs_11_5 (by decide) ?_
  refine pw_iload r_11_judge_4 rfl ?_
  refine pw_iload r_11_judge_5 rfl ?_
  refine pw_callV (av := [vI (set0), vI (set1)]) (st := []) (ls0 := [some (vR 10 (0)), some (vI (set0)), some (vI (set1))]) r_11_judge_6 rfl rfl rfl (Nat.le_refl _) ?_
  refine sp_X10_verdict (by first | assumption | exact hp | omega) (by first | assumption | exact hsz | omega) (by first | assumption | exact hf | omega) (by first | assumption | exact hpr | omega) (by first | assumption | exact htx | omega) (by first | assumption | exact hTX | omega) (by first | assumption | exact hSD | omega) (by first | assumption | exact hFC | omega) (by first | assumption | exact hKC | omega) (by first | assumption | exact hnA | omega) (by first | assumption | exact hcA | omega) (by first | assumption | exact hsA | omega) (by first | assumption | exact hlv | omega) (by first | assumption | exact hdi | omega) (by first | assumption | exact hof | omega) (by first | assumption | exact hdd | omega) (by first | assumption | exact hr | omega) (by first | assumption | exact hST | omega) (by first | assumption | exact hWT | omega) ?_ ?_
  · skip
    intro q1
    refine pw_iret r_11_judge_9 rfl (Nat.le_refl _) ⟨rfl, ?_⟩
    exact h1 q1
  · skip
    intro q1 g
    refine pw_iret r_11_judge_9 rfl (Nat.le_refl _) ⟨rfl, ?_⟩
    exact h2 q1 g
set_option maxRecDepth 10000 in
theorem sp_J_bitCount {l : Launch} {w : Wo} {d : Nat} {G : PH} {P : Option PV → PH → Prop} {a : Int} (ha : 0 ≤ a ∧ a < 128) (hP : P (some (vI (pcF a))) G) : PW l w M_J_bitCount (d + 0) 0 [some (vI (a))] [] G P := by
  refine pw_iload r_J_bitCount_0 rfl ?_
  refine pw_iload r_J_bitCount_1 rfl ?_
  refine pw_const r_J_bitCount_2 ?_
  refine pw_iushr r_J_bitCount_3 ?_
  refine pw_const r_J_bitCount_4 ?_
  refine pw_iand r_J_bitCount_7 ?_
  refine pw_isubW r_J_bitCount_8 ?_
  refine pw_istore (ls' := [some (vI (wr (a - (pAnd (pUshr a 1) 1431655765))))]) r_J_bitCount_9 rfl rfl ?_
  refine pw_iload r_J_bitCount_10 rfl ?_
  refine pw_const r_J_bitCount_11 ?_
  refine pw_iand r_J_bitCount_14 ?_
  refine pw_iload r_J_bitCount_15 rfl ?_
  refine pw_const r_J_bitCount_16 ?_
  refine pw_iushr r_J_bitCount_17 ?_
  refine pw_const r_J_bitCount_18 ?_
  refine pw_iand r_J_bitCount_21 ?_
  refine pw_iaddW r_J_bitCount_22 ?_
  refine pw_istore (ls' := [some (vI (wr ((pAnd (wr (a - (pAnd (pUshr a 1) 1431655765))) 858993459) + (pAnd (pUshr (wr (a - (pAnd (pUshr a 1) 1431655765))) 2) 858993459))))]) r_J_bitCount_23 rfl rfl ?_
  refine pw_iload r_J_bitCount_24 rfl ?_
  refine pw_iload r_J_bitCount_25 rfl ?_
  refine pw_const r_J_bitCount_26 ?_
  refine pw_iushr r_J_bitCount_27 ?_
  refine pw_iaddW r_J_bitCount_28 ?_
  refine pw_const r_J_bitCount_29 ?_
  refine pw_iand r_J_bitCount_32 ?_
  refine pw_istore (ls' := [some (vI (pAnd (wr ((wr ((pAnd (wr (a - (pAnd (pUshr a 1) 1431655765))) 858993459) + (pAnd (pUshr (wr (a - (pAnd (pUshr a 1) 1431655765))) 2) 858993459))) + (pUshr (wr ((pAnd (wr (a - (pAnd (pUshr a 1) 1431655765))) 858993459) + (pAnd (pUshr (wr (a - (pAnd (pUshr a 1) 1431655765))) 2) 858993459))) 4))) 252645135))]) r_J_bitCount_33 rfl rfl ?_
  refine pw_iload r_J_bitCount_34 rfl ?_
  refine pw_iload r_J_bitCount_35 rfl ?_
  refine pw_const r_J_bitCount_36 ?_
  refine pw_iushr r_J_bitCount_38 ?_
  refine pw_iaddW r_J_bitCount_39 ?_
  refine pw_istore (ls' := [some (vI (wr ((pAnd (wr ((wr ((pAnd (wr (a - (pAnd (pUshr a 1) 1431655765))) 858993459) + (pAnd (pUshr (wr (a - (pAnd (pUshr a 1) 1431655765))) 2) 858993459))) + (pUshr (wr ((pAnd (wr (a - (pAnd (pUshr a 1) 1431655765))) 858993459) + (pAnd (pUshr (wr (a - (pAnd (pUshr a 1) 1431655765))) 2) 858993459))) 4))) 252645135) + (pUshr (pAnd (wr ((wr ((pAnd (wr (a - (pAnd (pUshr a 1) 1431655765))) 858993459) + (pAnd (pUshr (wr (a - (pAnd (pUshr a 1) 1431655765))) 2) 858993459))) + (pUshr (wr ((pAnd (wr (a - (pAnd (pUshr a 1) 1431655765))) 858993459) + (pAnd (pUshr (wr (a - (pAnd (pUshr a 1) 1431655765))) 2) 858993459))) 4))) 252645135) 8))))]) r_J_bitCount_40 rfl rfl ?_
  refine pw_iload r_J_bitCount_41 rfl ?_
  refine pw_iload r_J_bitCount_42 rfl ?_
  refine pw_const r_J_bitCount_43 ?_
  refine pw_iushr r_J_bitCount_45 ?_
  refine pw_iaddW r_J_bitCount_46 ?_
  refine pw_istore (ls' := [some (vI (wr ((wr ((pAnd (wr ((wr ((pAnd (wr (a - (pAnd (pUshr a 1) 1431655765))) 858993459) + (pAnd (pUshr (wr (a - (pAnd (pUshr a 1) 1431655765))) 2) 858993459))) + (pUshr (wr ((pAnd (wr (a - (pAnd (pUshr a 1) 1431655765))) 858993459) + (pAnd (pUshr (wr (a - (pAnd (pUshr a 1) 1431655765))) 2) 858993459))) 4))) 252645135) + (pUshr (pAnd (wr ((wr ((pAnd (wr (a - (pAnd (pUshr a 1) 1431655765))) 858993459) + (pAnd (pUshr (wr (a - (pAnd (pUshr a 1) 1431655765))) 2) 858993459))) + (pUshr (wr ((pAnd (wr (a - (pAnd (pUshr a 1) 1431655765))) 858993459) + (pAnd (pUshr (wr (a - (pAnd (pUshr a 1) 1431655765))) 2) 858993459))) 4))) 252645135) 8))) + (pUshr (wr ((pAnd (wr ((wr ((pAnd (wr (a - (pAnd (pUshr a 1) 1431655765))) 858993459) + (pAnd (pUshr (wr (a - (pAnd (pUshr a 1) 1431655765))) 2) 858993459))) + (pUshr (wr ((pAnd (wr (a - (pAnd (pUshr a 1) 1431655765))) 858993459) + (pAnd (pUshr (wr (a - (pAnd (pUshr a 1) 1431655765))) 2) 858993459))) 4))) 252645135) + (pUshr (pAnd (wr ((wr ((pAnd (wr (a - (pAnd (pUshr a 1) 1431655765))) 858993459) + (pAnd (pUshr (wr (a - (pAnd (pUshr a 1) 1431655765))) 2) 858993459))) + (pUshr (wr ((pAnd (wr (a - (pAnd (pUshr a 1) 1431655765))) 858993459) + (pAnd (pUshr (wr (a - (pAnd (pUshr a 1) 1431655765))) 2) 858993459))) 4))) 252645135) 8))) 16))))]) r_J_bitCount_47 rfl rfl ?_
  refine pw_iload r_J_bitCount_48 rfl ?_
  refine pw_const r_J_bitCount_49 ?_
  refine pw_iand r_J_bitCount_51 ?_
  refine pw_iret r_J_bitCount_52 rfl (Nat.le_refl _) ⟨rfl, ?_⟩
  have key : ∀ j : Nat, j < 128 → pcF j = pAnd (wr ((wr ((pAnd (wr ((wr ((pAnd (wr ((j : Int) - (pAnd (pUshr (j : Int) 1) 1431655765))) 858993459) + (pAnd (pUshr (wr ((j : Int) - (pAnd (pUshr (j : Int) 1) 1431655765))) 2) 858993459))) + (pUshr (wr ((pAnd (wr ((j : Int) - (pAnd (pUshr (j : Int) 1) 1431655765))) 858993459) + (pAnd (pUshr (wr ((j : Int) - (pAnd (pUshr (j : Int) 1) 1431655765))) 2) 858993459))) 4))) 252645135) + (pUshr (pAnd (wr ((wr ((pAnd (wr ((j : Int) - (pAnd (pUshr (j : Int) 1) 1431655765))) 858993459) + (pAnd (pUshr (wr ((j : Int) - (pAnd (pUshr (j : Int) 1) 1431655765))) 2) 858993459))) + (pUshr (wr ((pAnd (wr ((j : Int) - (pAnd (pUshr (j : Int) 1) 1431655765))) 858993459) + (pAnd (pUshr (wr ((j : Int) - (pAnd (pUshr (j : Int) 1) 1431655765))) 2) 858993459))) 4))) 252645135) 8))) + (pUshr (wr ((pAnd (wr ((wr ((pAnd (wr ((j : Int) - (pAnd (pUshr (j : Int) 1) 1431655765))) 858993459) + (pAnd (pUshr (wr ((j : Int) - (pAnd (pUshr (j : Int) 1) 1431655765))) 2) 858993459))) + (pUshr (wr ((pAnd (wr ((j : Int) - (pAnd (pUshr (j : Int) 1) 1431655765))) 858993459) + (pAnd (pUshr (wr ((j : Int) - (pAnd (pUshr (j : Int) 1) 1431655765))) 2) 858993459))) 4))) 252645135) + (pUshr (pAnd (wr ((wr ((pAnd (wr ((j : Int) - (pAnd (pUshr (j : Int) 1) 1431655765))) 858993459) + (pAnd (pUshr (wr ((j : Int) - (pAnd (pUshr (j : Int) 1) 1431655765))) 2) 858993459))) + (pUshr (wr ((pAnd (wr ((j : Int) - (pAnd (pUshr (j : Int) 1) 1431655765))) 858993459) + (pAnd (pUshr (wr ((j : Int) - (pAnd (pUshr (j : Int) 1) 1431655765))) 2) 858993459))) 4))) 252645135) 8))) 16))) 63 := by decide +kernel
  have h9 := key a.toNat (by omega)
  rw [Int.toNat_of_nonneg ha.1] at h9
  exact pe hP h9.symm
