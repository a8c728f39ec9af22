/-- the reference's byte: 0 behind the end -/
def byt (b : Int → Int) (n a : Int) : Int := if a < n then b a else 0
theorem byt_sgn (b : Int → Int) (n a : Int) : (byt b n a = sgn b n a ∧ a < n) ∨ (byt b n a = 0 ∧ sgn b n a = -1 ∧ n ≤ a) := by
  rcases Int.lt_or_le a n with h | h
  · exact Or.inl ⟨by unfold byt sgn; rw [if_pos h, if_pos h], h⟩
  · exact Or.inr ⟨if_neg (by omega), if_neg (by omega), h⟩
theorem nm_byt (b : Int → Int) (n a : Int) : nmIx (byt b n a) = nmIx (sgn b n a) := by
  rcases byt_sgn b n a with ⟨h, -⟩ | ⟨h, h1, -⟩
  · rw [h]
  · rw [h, h1]; decide
theorem rk_iff (c : Int) : (rkOf c = 0 ↔ c = 124) ∧ (rkOf c = 1 ↔ c = 38) ∧ (rkOf c = 2 ↔ (c = 60 ∨ c = 61 ∨ c = 62)) ∧ (rkOf c = 3 ↔ (c = 43 ∨ c = 45)) ∧ (rkOf c = 4 ↔ (c = 42 ∨ c = 47)) := by
  unfold rkOf
  repeat' split
  all_goals omega
section WK
variable {c a b : Int}
theorem wk_124 (h : c = 124) : wk c a b = b2i (a ≠ 0 ∨ b ≠ 0) := by subst h; unfold wk; rw [if_pos rfl]
theorem wk_38 (h : c = 38) : wk c a b = b2i (a ≠ 0 ∧ b ≠ 0) := by subst h; unfold wk; rw [if_neg (by decide), if_pos rfl]
theorem wk_60 (h : c = 60) : wk c a b = b2i (a < b) := by subst h; unfold wk; rw [if_neg (by decide), if_neg (by decide), if_pos rfl]
theorem wk_61 (h : c = 61) : wk c a b = b2i (a = b) := by subst h; unfold wk; rw [if_neg (by decide), if_neg (by decide), if_neg (by decide), if_pos rfl]
theorem wk_62 (h : c = 62) : wk c a b = b2i (b < a) := by subst h; unfold wk; rw [if_neg (by decide), if_neg (by decide), if_neg (by decide), if_neg (by decide), if_pos rfl]
theorem wk_43 (h : c = 43) : wk c a b = wr (a + b) := by subst h; unfold wk; rw [if_neg (by decide), if_neg (by decide), if_neg (by decide), if_neg (by decide), if_neg (by decide), if_pos rfl]
theorem wk_45 (h : c = 45) : wk c a b = wr (a - b) := by subst h; unfold wk; rw [if_neg (by decide), if_neg (by decide), if_neg (by decide), if_neg (by decide), if_neg (by decide), if_neg (by decide), if_pos rfl]
theorem wk_42 (h : c = 42) : wk c a b = wr (a * b) := by subst h; unfold wk; rw [if_neg (by decide), if_neg (by decide), if_neg (by decide), if_neg (by decide), if_neg (by decide), if_neg (by decide), if_neg (by decide), if_pos rfl]
theorem wk_47 (h : c = 47) : wk c a b = if b = 0 then 0 else pDiv a b := by subst h; unfold wk; rw [if_neg (by decide), if_neg (by decide), if_neg (by decide), if_neg (by decide), if_neg (by decide), if_neg (by decide), if_neg (by decide), if_neg (by decide)]
end WK

theorem wd_m12_340 : Cond.methodLink "NameRollsModel" 340 M_X12_both.1 ∈ UW := UW9_at 70 (by decide +kernel) rfl
theorem wd_s12_both : Cond.selects M_X12_both.1.cls M_X12_both.1 M_X12_both.1 ∈ UW := UWp_at 74 (by decide +kernel) rfl
theorem wd_m12_343 : Cond.methodLink "NameRollsModel" 343 M_X12_takes.1 ∈ UW := UW9_at 98 (by decide +kernel) rfl
theorem wd_s12_takes : Cond.selects M_X12_takes.1.cls M_X12_takes.1 M_X12_takes.1 ∈ UW := UWp_at 81 (by decide +kernel) rfl
theorem wd_m12_346 : Cond.methodLink "NameRollsModel" 346 M_X12_compared.1 ∈ UW := UW9_at 74 (by decide +kernel) rfl
theorem wd_s12_compared : Cond.selects M_X12_compared.1.cls M_X12_compared.1 M_X12_compared.1 ∈ UW := UWp_at 75 (by decide +kernel) rfl
theorem wd_m12_349 : Cond.methodLink "NameRollsModel" 349 M_X12_sums.1 ∈ UW := UW9_at 78 (by decide +kernel) rfl
theorem wd_s12_sums : Cond.selects M_X12_sums.1.cls M_X12_sums.1 M_X12_sums.1 ∈ UW := UWp_at 76 (by decide +kernel) rfl
theorem wd_m12_352 : Cond.methodLink "NameRollsModel" 352 M_X12_product.1 ∈ UW := UW9_at 82 (by decide +kernel) rfl
theorem wd_s12_product : Cond.selects M_X12_product.1.cls M_X12_product.1 M_X12_product.1 ∈ UW := UWp_at 77 (by decide +kernel) rfl
theorem wd_m12_355 : Cond.methodLink "NameRollsModel" 355 M_X12_one.1 ∈ UW := UW9_at 86 (by decide +kernel) rfl
theorem wd_s12_one : Cond.selects M_X12_one.1.cls M_X12_one.1 M_X12_one.1 ∈ UW := UWp_at 78 (by decide +kernel) rfl
theorem wd_f12_358 : Cond.fieldLink "NameRollsModel" 358 "NameRollsModel" "open" "I" ∈ UW := UW7_at 116 (by decide +kernel) rfl
theorem wd_m12_364 : Cond.methodLink "NameRollsModel" 364 M_X12_either.1 ∈ UW := UW9_at 66 (by decide +kernel) rfl
theorem wd_s12_either : Cond.selects M_X12_either.1.cls M_X12_either.1 M_X12_either.1 ∈ UW := UWp_at 73 (by decide +kernel) rfl
theorem wd_m12_361 : Cond.methodLink "NameRollsModel" 361 M_X12_wrong.1 ∈ UW := UW9_at 94 (by decide +kernel) rfl
theorem wd_s12_wrong : Cond.selects M_X12_wrong.1.cls M_X12_wrong.1 M_X12_wrong.1 ∈ UW := UWp_at 80 (by decide +kernel) rfl
theorem wd_m12_367 : Cond.methodLink "NameRollsModel" 367 M_X12_nameOf.1 ∈ UW := UW9_at 102 (by decide +kernel) rfl
theorem wd_f12_115 : Cond.fieldLink "NameRollsModel" 115 "NameRollsModel" "names" "[I" ∈ UW := UW7_at 117 (by decide +kernel) rfl
theorem r_12_either_0 : RA M_X12_either 0 0 1 := Or.inl ⟨0, by decide +kernel, rfl, rfl⟩
theorem r_12_either_1 : RKv M_X12_either M_X12_both 1 0 12 4 := ⟨340, by decide +kernel, wd_m12_340, ok_M_X12_both, wd_s12_both, rfl⟩
theorem r_12_either_4 : RS M_X12_either 4 1 5 := ⟨by decide, Or.inl ⟨1, by decide +kernel, rfl, rfl⟩⟩
theorem r_12_either_5 : RA M_X12_either 5 0 6 := Or.inl ⟨0, by decide +kernel, rfl, rfl⟩
theorem r_12_either_6 : RC M_X12_either 6 124 8 := ⟨⟨by decide, by decide⟩, Or.inr (Or.inl ⟨by decide +kernel, by decide, rfl⟩)⟩
theorem r_12_either_8 : RKv M_X12_either M_X12_takes 8 1 12 11 := ⟨343, by decide +kernel, wd_m12_343, ok_M_X12_takes, wd_s12_takes, rfl⟩
theorem r_12_either_11 : RB M_X12_either 11 (.ifCond .eq) 36 14 := ⟨25, by decide +kernel, rfl, rfl⟩
theorem r_12_either_36 : RL M_X12_either 36 1 37 := Or.inl ⟨1, by decide +kernel, rfl, rfl⟩
theorem r_12_either_37 : RW M_X12_either 37 .ireturn 38 1 := ⟨by decide +kernel, rfl⟩
theorem r_12_either_14 : RA M_X12_either 14 0 15 := Or.inl ⟨0, by decide +kernel, rfl, rfl⟩
theorem r_12_either_15 : RKv M_X12_either M_X12_both 15 0 12 18 := ⟨340, by decide +kernel, wd_m12_340, ok_M_X12_both, wd_s12_both, rfl⟩
theorem r_12_either_18 : RS M_X12_either 18 2 19 := ⟨by decide, Or.inl ⟨2, by decide +kernel, rfl, rfl⟩⟩
theorem r_12_either_19 : RL M_X12_either 19 1 20 := Or.inl ⟨1, by decide +kernel, rfl, rfl⟩
theorem r_12_either_20 : RB M_X12_either 20 (.ifCond .ne) 27 23 := ⟨7, by decide +kernel, rfl, rfl⟩
theorem r_12_either_27 : RC M_X12_either 27 1 28 := ⟨⟨by decide, by decide⟩, Or.inl ⟨by decide +kernel, rfl⟩⟩
theorem r_12_either_28 : RB M_X12_either 28 .goto 32 31 := ⟨4, by decide +kernel, rfl, rfl⟩
theorem r_12_either_32 : RS M_X12_either 32 1 33 := ⟨by decide, Or.inl ⟨1, by decide +kernel, rfl, rfl⟩⟩
theorem r_12_either_33 : RB M_X12_either 33 .goto 5 36 := ⟨(-28), by decide +kernel, rfl, rfl⟩
theorem r_12_either_23 : RL M_X12_either 23 2 24 := Or.inl ⟨2, by decide +kernel, rfl, rfl⟩
theorem r_12_either_24 : RB M_X12_either 24 (.ifCond .eq) 31 27 := ⟨7, by decide +kernel, rfl, rfl⟩
theorem r_12_either_31 : RC M_X12_either 31 0 32 := ⟨⟨by decide, by decide⟩, Or.inl ⟨by decide +kernel, rfl⟩⟩
theorem r_12_both_0 : RA M_X12_both 0 0 1 := Or.inl ⟨0, by decide +kernel, rfl, rfl⟩
theorem r_12_both_1 : RKv M_X12_both M_X12_compared 1 0 12 4 := ⟨346, by decide +kernel, wd_m12_346, ok_M_X12_compared, wd_s12_compared, rfl⟩
theorem r_12_both_4 : RS M_X12_both 4 1 5 := ⟨by decide, Or.inl ⟨1, by decide +kernel, rfl, rfl⟩⟩
theorem r_12_both_5 : RA M_X12_both 5 0 6 := Or.inl ⟨0, by decide +kernel, rfl, rfl⟩
theorem r_12_both_6 : RC M_X12_both 6 38 8 := ⟨⟨by decide, by decide⟩, Or.inr (Or.inl ⟨by decide +kernel, by decide, rfl⟩)⟩
theorem r_12_both_8 : RKv M_X12_both M_X12_takes 8 1 12 11 := ⟨343, by decide +kernel, wd_m12_343, ok_M_X12_takes, wd_s12_takes, rfl⟩
theorem r_12_both_11 : RB M_X12_both 11 (.ifCond .eq) 36 14 := ⟨25, by decide +kernel, rfl, rfl⟩
theorem r_12_both_36 : RL M_X12_both 36 1 37 := Or.inl ⟨1, by decide +kernel, rfl, rfl⟩
theorem r_12_both_37 : RW M_X12_both 37 .ireturn 38 1 := ⟨by decide +kernel, rfl⟩
theorem r_12_both_14 : RA M_X12_both 14 0 15 := Or.inl ⟨0, by decide +kernel, rfl, rfl⟩
theorem r_12_both_15 : RKv M_X12_both M_X12_compared 15 0 12 18 := ⟨346, by decide +kernel, wd_m12_346, ok_M_X12_compared, wd_s12_compared, rfl⟩
theorem r_12_both_18 : RS M_X12_both 18 2 19 := ⟨by decide, Or.inl ⟨2, by decide +kernel, rfl, rfl⟩⟩
theorem r_12_both_19 : RL M_X12_both 19 1 20 := Or.inl ⟨1, by decide +kernel, rfl, rfl⟩
theorem r_12_both_20 : RB M_X12_both 20 (.ifCond .eq) 31 23 := ⟨11, by decide +kernel, rfl, rfl⟩
theorem r_12_both_31 : RC M_X12_both 31 0 32 := ⟨⟨by decide, by decide⟩, Or.inl ⟨by decide +kernel, rfl⟩⟩
theorem r_12_both_32 : RS M_X12_both 32 1 33 := ⟨by decide, Or.inl ⟨1, by decide +kernel, rfl, rfl⟩⟩
theorem r_12_both_33 : RB M_X12_both 33 .goto 5 36 := ⟨(-28), by decide +kernel, rfl, rfl⟩
theorem r_12_both_23 : RL M_X12_both 23 2 24 := Or.inl ⟨2, by decide +kernel, rfl, rfl⟩
theorem r_12_both_24 : RB M_X12_both 24 (.ifCond .eq) 31 27 := ⟨7, by decide +kernel, rfl, rfl⟩
theorem r_12_both_27 : RC M_X12_both 27 1 28 := ⟨⟨by decide, by decide⟩, Or.inl ⟨by decide +kernel, rfl⟩⟩
theorem r_12_both_28 : RB M_X12_both 28 .goto 32 31 := ⟨4, by decide +kernel, rfl, rfl⟩
theorem r_12_compared_0 : RA M_X12_compared 0 0 1 := Or.inl ⟨0, by decide +kernel, rfl, rfl⟩
theorem r_12_compared_1 : RKv M_X12_compared M_X12_sums 1 0 12 4 := ⟨349, by decide +kernel, wd_m12_349, ok_M_X12_sums, wd_s12_sums, rfl⟩
theorem r_12_compared_4 : RS M_X12_compared 4 1 5 := ⟨by decide, Or.inl ⟨1, by decide +kernel, rfl, rfl⟩⟩
theorem r_12_compared_5 : RA M_X12_compared 5 0 6 := Or.inl ⟨0, by decide +kernel, rfl, rfl⟩
theorem r_12_compared_6 : RKv M_X12_compared M_X12_byteAt 6 0 12 9 := ⟨337, by decide +kernel, wd_m12_337, ok_M_X12_byteAt, wd_s12_byteAt, rfl⟩
theorem r_12_compared_9 : RS M_X12_compared 9 2 10 := ⟨by decide, Or.inl ⟨2, by decide +kernel, rfl, rfl⟩⟩
theorem r_12_compared_10 : RA M_X12_compared 10 0 11 := Or.inl ⟨0, by decide +kernel, rfl, rfl⟩
theorem r_12_compared_11 : RG M_X12_compared 11 12 47 14 := ⟨334, _, by decide +kernel, rfl, by decide, wd_f12_334, rfl, rfl⟩
theorem r_12_compared_14 : RB M_X12_compared 14 (.ifCond .ge) 35 17 := ⟨21, by decide +kernel, rfl, rfl⟩
theorem r_12_compared_35 : RL M_X12_compared 35 1 36 := Or.inl ⟨1, by decide +kernel, rfl, rfl⟩
theorem r_12_compared_36 : RW M_X12_compared 36 .ireturn 37 1 := ⟨by decide +kernel, rfl⟩
theorem r_12_compared_17 : RL M_X12_compared 17 2 18 := Or.inl ⟨2, by decide +kernel, rfl, rfl⟩
theorem r_12_compared_18 : RC M_X12_compared 18 60 20 := ⟨⟨by decide, by decide⟩, Or.inr (Or.inl ⟨by decide +kernel, by decide, rfl⟩)⟩
theorem r_12_compared_20 : RB M_X12_compared 20 (.if_icmp .eq) 37 23 := ⟨17, by decide +kernel, rfl, rfl⟩
theorem r_12_compared_37 : RA M_X12_compared 37 0 38 := Or.inl ⟨0, by decide +kernel, rfl, rfl⟩
theorem r_12_compared_38 : RW M_X12_compared 38 .dup 39 1 := ⟨by decide +kernel, rfl⟩
theorem r_12_compared_39 : RG M_X12_compared 39 12 45 42 := ⟨325, _, by decide +kernel, rfl, by decide, wd_f12_325, rfl, rfl⟩
theorem r_12_compared_42 : RC M_X12_compared 42 1 43 := ⟨⟨by decide, by decide⟩, Or.inl ⟨by decide +kernel, rfl⟩⟩
theorem r_12_compared_43 : RW M_X12_compared 43 .iadd 44 1 := ⟨by decide +kernel, rfl⟩
theorem r_12_compared_44 : RP M_X12_compared 44 12 45 47 := ⟨325, _, by decide +kernel, rfl, by decide, wd_f12_325, rfl, Or.inl rfl, rfl⟩
theorem r_12_compared_47 : RA M_X12_compared 47 0 48 := Or.inl ⟨0, by decide +kernel, rfl, rfl⟩
theorem r_12_compared_48 : RKv M_X12_compared M_X12_sums 48 0 12 51 := ⟨349, by decide +kernel, wd_m12_349, ok_M_X12_sums, wd_s12_sums, rfl⟩
theorem r_12_compared_51 : RS M_X12_compared 51 3 52 := ⟨by decide, Or.inl ⟨3, by decide +kernel, rfl, rfl⟩⟩
theorem r_12_compared_52 : RL M_X12_compared 52 2 53 := Or.inl ⟨2, by decide +kernel, rfl, rfl⟩
theorem r_12_compared_53 : RC M_X12_compared 53 60 55 := ⟨⟨by decide, by decide⟩, Or.inr (Or.inl ⟨by decide +kernel, by decide, rfl⟩)⟩
theorem r_12_compared_55 : RB M_X12_compared 55 (.if_icmp .ne) 66 58 := ⟨11, by decide +kernel, rfl, rfl⟩
theorem r_12_compared_66 : RL M_X12_compared 66 2 67 := Or.inl ⟨2, by decide +kernel, rfl, rfl⟩
theorem r_12_compared_67 : RC M_X12_compared 67 61 69 := ⟨⟨by decide, by decide⟩, Or.inr (Or.inl ⟨by decide +kernel, by decide, rfl⟩)⟩
theorem r_12_compared_69 : RB M_X12_compared 69 (.if_icmp .ne) 80 72 := ⟨11, by decide +kernel, rfl, rfl⟩
theorem r_12_compared_80 : RL M_X12_compared 80 1 81 := Or.inl ⟨1, by decide +kernel, rfl, rfl⟩
theorem r_12_compared_81 : RL M_X12_compared 81 3 82 := Or.inl ⟨3, by decide +kernel, rfl, rfl⟩
theorem r_12_compared_82 : RB M_X12_compared 82 (.if_icmp .le) 89 85 := ⟨7, by decide +kernel, rfl, rfl⟩
theorem r_12_compared_89 : RC M_X12_compared 89 0 90 := ⟨⟨by decide, by decide⟩, Or.inl ⟨by decide +kernel, rfl⟩⟩
theorem r_12_compared_90 : RW M_X12_compared 90 .ireturn 91 1 := ⟨by decide +kernel, rfl⟩
theorem r_12_compared_85 : RC M_X12_compared 85 1 86 := ⟨⟨by decide, by decide⟩, Or.inl ⟨by decide +kernel, rfl⟩⟩
theorem r_12_compared_86 : RB M_X12_compared 86 .goto 90 89 := ⟨4, by decide +kernel, rfl, rfl⟩
theorem r_12_compared_72 : RL M_X12_compared 72 1 73 := Or.inl ⟨1, by decide +kernel, rfl, rfl⟩
theorem r_12_compared_73 : RL M_X12_compared 73 3 74 := Or.inl ⟨3, by decide +kernel, rfl, rfl⟩
theorem r_12_compared_74 : RB M_X12_compared 74 (.if_icmp .ne) 89 77 := ⟨15, by decide +kernel, rfl, rfl⟩
theorem r_12_compared_77 : RB M_X12_compared 77 .goto 85 80 := ⟨8, by decide +kernel, rfl, rfl⟩
theorem r_12_compared_58 : RL M_X12_compared 58 1 59 := Or.inl ⟨1, by decide +kernel, rfl, rfl⟩
theorem r_12_compared_59 : RL M_X12_compared 59 3 60 := Or.inl ⟨3, by decide +kernel, rfl, rfl⟩
theorem r_12_compared_60 : RB M_X12_compared 60 (.if_icmp .ge) 89 63 := ⟨29, by decide +kernel, rfl, rfl⟩
theorem r_12_compared_63 : RB M_X12_compared 63 .goto 85 66 := ⟨22, by decide +kernel, rfl, rfl⟩
theorem r_12_compared_23 : RL M_X12_compared 23 2 24 := Or.inl ⟨2, by decide +kernel, rfl, rfl⟩
theorem r_12_compared_24 : RC M_X12_compared 24 61 26 := ⟨⟨by decide, by decide⟩, Or.inr (Or.inl ⟨by decide +kernel, by decide, rfl⟩)⟩
theorem r_12_compared_26 : RB M_X12_compared 26 (.if_icmp .eq) 37 29 := ⟨11, by decide +kernel, rfl, rfl⟩
theorem r_12_compared_29 : RL M_X12_compared 29 2 30 := Or.inl ⟨2, by decide +kernel, rfl, rfl⟩
theorem r_12_compared_30 : RC M_X12_compared 30 62 32 := ⟨⟨by decide, by decide⟩, Or.inr (Or.inl ⟨by decide +kernel, by decide, rfl⟩)⟩
theorem r_12_compared_32 : RB M_X12_compared 32 (.if_icmp .eq) 37 35 := ⟨5, by decide +kernel, rfl, rfl⟩
theorem r_12_sums_0 : RA M_X12_sums 0 0 1 := Or.inl ⟨0, by decide +kernel, rfl, rfl⟩
theorem r_12_sums_1 : RKv M_X12_sums M_X12_product 1 0 12 4 := ⟨352, by decide +kernel, wd_m12_352, ok_M_X12_product, wd_s12_product, rfl⟩
theorem r_12_sums_4 : RS M_X12_sums 4 1 5 := ⟨by decide, Or.inl ⟨1, by decide +kernel, rfl, rfl⟩⟩
theorem r_12_sums_5 : RA M_X12_sums 5 0 6 := Or.inl ⟨0, by decide +kernel, rfl, rfl⟩
theorem r_12_sums_6 : RG M_X12_sums 6 12 47 9 := ⟨334, _, by decide +kernel, rfl, by decide, wd_f12_334, rfl, rfl⟩
theorem r_12_sums_9 : RB M_X12_sums 9 (.ifCond .ge) 77 12 := ⟨68, by decide +kernel, rfl, rfl⟩
theorem r_12_sums_77 : RL M_X12_sums 77 1 78 := Or.inl ⟨1, by decide +kernel, rfl, rfl⟩
theorem r_12_sums_78 : RW M_X12_sums 78 .ireturn 79 1 := ⟨by decide +kernel, rfl⟩
theorem r_12_sums_12 : RA M_X12_sums 12 0 13 := Or.inl ⟨0, by decide +kernel, rfl, rfl⟩
theorem r_12_sums_13 : RKv M_X12_sums M_X12_byteAt 13 0 12 16 := ⟨337, by decide +kernel, wd_m12_337, ok_M_X12_byteAt, wd_s12_byteAt, rfl⟩
theorem r_12_sums_16 : RC M_X12_sums 16 43 18 := ⟨⟨by decide, by decide⟩, Or.inr (Or.inl ⟨by decide +kernel, by decide, rfl⟩)⟩
theorem r_12_sums_18 : RB M_X12_sums 18 (.if_icmp .eq) 30 21 := ⟨12, by decide +kernel, rfl, rfl⟩
theorem r_12_sums_30 : RA M_X12_sums 30 0 31 := Or.inl ⟨0, by decide +kernel, rfl, rfl⟩
theorem r_12_sums_31 : RKv M_X12_sums M_X12_byteAt 31 0 12 34 := ⟨337, by decide +kernel, wd_m12_337, ok_M_X12_byteAt, wd_s12_byteAt, rfl⟩
theorem r_12_sums_34 : RC M_X12_sums 34 43 36 := ⟨⟨by decide, by decide⟩, Or.inr (Or.inl ⟨by decide +kernel, by decide, rfl⟩)⟩
theorem r_12_sums_36 : RB M_X12_sums 36 (.if_icmp .ne) 43 39 := ⟨7, by decide +kernel, rfl, rfl⟩
theorem r_12_sums_43 : RC M_X12_sums 43 0 44 := ⟨⟨by decide, by decide⟩, Or.inl ⟨by decide +kernel, rfl⟩⟩
theorem r_12_sums_44 : RS M_X12_sums 44 2 45 := ⟨by decide, Or.inl ⟨2, by decide +kernel, rfl, rfl⟩⟩
theorem r_12_sums_45 : RA M_X12_sums 45 0 46 := Or.inl ⟨0, by decide +kernel, rfl, rfl⟩
theorem r_12_sums_46 : RW M_X12_sums 46 .dup 47 1 := ⟨by decide +kernel, rfl⟩
theorem r_12_sums_47 : RG M_X12_sums 47 12 45 50 := ⟨325, _, by decide +kernel, rfl, by decide, wd_f12_325, rfl, rfl⟩
theorem r_12_sums_50 : RC M_X12_sums 50 1 51 := ⟨⟨by decide, by decide⟩, Or.inl ⟨by decide +kernel, rfl⟩⟩
theorem r_12_sums_51 : RW M_X12_sums 51 .iadd 52 1 := ⟨by decide +kernel, rfl⟩
theorem r_12_sums_52 : RP M_X12_sums 52 12 45 55 := ⟨325, _, by decide +kernel, rfl, by decide, wd_f12_325, rfl, Or.inl rfl, rfl⟩
theorem r_12_sums_55 : RA M_X12_sums 55 0 56 := Or.inl ⟨0, by decide +kernel, rfl, rfl⟩
theorem r_12_sums_56 : RKv M_X12_sums M_X12_product 56 0 12 59 := ⟨352, by decide +kernel, wd_m12_352, ok_M_X12_product, wd_s12_product, rfl⟩
theorem r_12_sums_59 : RS M_X12_sums 59 3 60 := ⟨by decide, Or.inl ⟨3, by decide +kernel, rfl, rfl⟩⟩
theorem r_12_sums_60 : RL M_X12_sums 60 2 61 := Or.inl ⟨2, by decide +kernel, rfl, rfl⟩
theorem r_12_sums_61 : RB M_X12_sums 61 (.ifCond .eq) 70 64 := ⟨9, by decide +kernel, rfl, rfl⟩
theorem r_12_sums_70 : RL M_X12_sums 70 1 71 := Or.inl ⟨1, by decide +kernel, rfl, rfl⟩
theorem r_12_sums_71 : RL M_X12_sums 71 3 72 := Or.inl ⟨3, by decide +kernel, rfl, rfl⟩
theorem r_12_sums_72 : RW M_X12_sums 72 .isub 73 1 := ⟨by decide +kernel, rfl⟩
theorem r_12_sums_73 : RS M_X12_sums 73 1 74 := ⟨by decide, Or.inl ⟨1, by decide +kernel, rfl, rfl⟩⟩
theorem r_12_sums_74 : RB M_X12_sums 74 .goto 5 77 := ⟨(-69), by decide +kernel, rfl, rfl⟩
theorem r_12_sums_39 : RC M_X12_sums 39 1 40 := ⟨⟨by decide, by decide⟩, Or.inl ⟨by decide +kernel, rfl⟩⟩
theorem r_12_sums_40 : RB M_X12_sums 40 .goto 44 43 := ⟨4, by decide +kernel, rfl, rfl⟩
theorem r_12_sums_64 : RL M_X12_sums 64 1 65 := Or.inl ⟨1, by decide +kernel, rfl, rfl⟩
theorem r_12_sums_65 : RL M_X12_sums 65 3 66 := Or.inl ⟨3, by decide +kernel, rfl, rfl⟩
theorem r_12_sums_66 : RW M_X12_sums 66 .iadd 67 1 := ⟨by decide +kernel, rfl⟩
theorem r_12_sums_67 : RB M_X12_sums 67 .goto 73 70 := ⟨6, by decide +kernel, rfl, rfl⟩
theorem r_12_sums_21 : RA M_X12_sums 21 0 22 := Or.inl ⟨0, by decide +kernel, rfl, rfl⟩
theorem r_12_sums_22 : RKv M_X12_sums M_X12_byteAt 22 0 12 25 := ⟨337, by decide +kernel, wd_m12_337, ok_M_X12_byteAt, wd_s12_byteAt, rfl⟩
theorem r_12_sums_25 : RC M_X12_sums 25 45 27 := ⟨⟨by decide, by decide⟩, Or.inr (Or.inl ⟨by decide +kernel, by decide, rfl⟩)⟩
theorem r_12_sums_27 : RB M_X12_sums 27 (.if_icmp .ne) 77 30 := ⟨50, by decide +kernel, rfl, rfl⟩
theorem r_12_product_0 : RA M_X12_product 0 0 1 := Or.inl ⟨0, by decide +kernel, rfl, rfl⟩
theorem r_12_product_1 : RKv M_X12_product M_X12_one 1 0 12 4 := ⟨355, by decide +kernel, wd_m12_355, ok_M_X12_one, wd_s12_one, rfl⟩
theorem r_12_product_4 : RS M_X12_product 4 1 5 := ⟨by decide, Or.inl ⟨1, by decide +kernel, rfl, rfl⟩⟩
theorem r_12_product_5 : RA M_X12_product 5 0 6 := Or.inl ⟨0, by decide +kernel, rfl, rfl⟩
theorem r_12_product_6 : RG M_X12_product 6 12 47 9 := ⟨334, _, by decide +kernel, rfl, by decide, wd_f12_334, rfl, rfl⟩
theorem r_12_product_9 : RB M_X12_product 9 (.ifCond .ge) 85 12 := ⟨76, by decide +kernel, rfl, rfl⟩
theorem r_12_product_85 : RL M_X12_product 85 1 86 := Or.inl ⟨1, by decide +kernel, rfl, rfl⟩
theorem r_12_product_86 : RW M_X12_product 86 .ireturn 87 1 := ⟨by decide +kernel, rfl⟩
theorem r_12_product_12 : RA M_X12_product 12 0 13 := Or.inl ⟨0, by decide +kernel, rfl, rfl⟩
theorem r_12_product_13 : RKv M_X12_product M_X12_byteAt 13 0 12 16 := ⟨337, by decide +kernel, wd_m12_337, ok_M_X12_byteAt, wd_s12_byteAt, rfl⟩
theorem r_12_product_16 : RC M_X12_product 16 42 18 := ⟨⟨by decide, by decide⟩, Or.inr (Or.inl ⟨by decide +kernel, by decide, rfl⟩)⟩
theorem r_12_product_18 : RB M_X12_product 18 (.if_icmp .eq) 30 21 := ⟨12, by decide +kernel, rfl, rfl⟩
theorem r_12_product_30 : RA M_X12_product 30 0 31 := Or.inl ⟨0, by decide +kernel, rfl, rfl⟩
theorem r_12_product_31 : RKv M_X12_product M_X12_byteAt 31 0 12 34 := ⟨337, by decide +kernel, wd_m12_337, ok_M_X12_byteAt, wd_s12_byteAt, rfl⟩
theorem r_12_product_34 : RC M_X12_product 34 42 36 := ⟨⟨by decide, by decide⟩, Or.inr (Or.inl ⟨by decide +kernel, by decide, rfl⟩)⟩
theorem r_12_product_36 : RB M_X12_product 36 (.if_icmp .ne) 43 39 := ⟨7, by decide +kernel, rfl, rfl⟩
theorem r_12_product_43 : RC M_X12_product 43 0 44 := ⟨⟨by decide, by decide⟩, Or.inl ⟨by decide +kernel, rfl⟩⟩
theorem r_12_product_44 : RS M_X12_product 44 2 45 := ⟨by decide, Or.inl ⟨2, by decide +kernel, rfl, rfl⟩⟩
theorem r_12_product_45 : RA M_X12_product 45 0 46 := Or.inl ⟨0, by decide +kernel, rfl, rfl⟩
theorem r_12_product_46 : RW M_X12_product 46 .dup 47 1 := ⟨by decide +kernel, rfl⟩
theorem r_12_product_47 : RG M_X12_product 47 12 45 50 := ⟨325, _, by decide +kernel, rfl, by decide, wd_f12_325, rfl, rfl⟩
theorem r_12_product_50 : RC M_X12_product 50 1 51 := ⟨⟨by decide, by decide⟩, Or.inl ⟨by decide +kernel, rfl⟩⟩
theorem r_12_product_51 : RW M_X12_product 51 .iadd 52 1 := ⟨by decide +kernel, rfl⟩
theorem r_12_product_52 : RP M_X12_product 52 12 45 55 := ⟨325, _, by decide +kernel, rfl, by decide, wd_f12_325, rfl, Or.inl rfl, rfl⟩
theorem r_12_product_55 : RA M_X12_product 55 0 56 := Or.inl ⟨0, by decide +kernel, rfl, rfl⟩
theorem r_12_product_56 : RKv M_X12_product M_X12_one 56 0 12 59 := ⟨355, by decide +kernel, wd_m12_355, ok_M_X12_one, wd_s12_one, rfl⟩
theorem r_12_product_59 : RS M_X12_product 59 3 60 := ⟨by decide, Or.inl ⟨3, by decide +kernel, rfl, rfl⟩⟩
theorem r_12_product_60 : RL M_X12_product 60 2 61 := Or.inl ⟨2, by decide +kernel, rfl, rfl⟩
theorem r_12_product_61 : RB M_X12_product 61 (.ifCond .eq) 70 64 := ⟨9, by decide +kernel, rfl, rfl⟩
theorem r_12_product_70 : RL M_X12_product 70 3 71 := Or.inl ⟨3, by decide +kernel, rfl, rfl⟩
theorem r_12_product_71 : RB M_X12_product 71 (.ifCond .ne) 78 74 := ⟨7, by decide +kernel, rfl, rfl⟩
theorem r_12_product_78 : RL M_X12_product 78 1 79 := Or.inl ⟨1, by decide +kernel, rfl, rfl⟩
theorem r_12_product_79 : RL M_X12_product 79 3 80 := Or.inl ⟨3, by decide +kernel, rfl, rfl⟩
theorem r_12_product_80 : RW M_X12_product 80 .idiv 81 1 := ⟨by decide +kernel, rfl⟩
theorem r_12_product_81 : RS M_X12_product 81 1 82 := ⟨by decide, Or.inl ⟨1, by decide +kernel, rfl, rfl⟩⟩
theorem r_12_product_82 : RB M_X12_product 82 .goto 5 85 := ⟨(-77), by decide +kernel, rfl, rfl⟩
theorem r_12_product_74 : RC M_X12_product 74 0 75 := ⟨⟨by decide, by decide⟩, Or.inl ⟨by decide +kernel, rfl⟩⟩
theorem r_12_product_75 : RB M_X12_product 75 .goto 81 78 := ⟨6, by decide +kernel, rfl, rfl⟩
theorem r_12_product_39 : RC M_X12_product 39 1 40 := ⟨⟨by decide, by decide⟩, Or.inl ⟨by decide +kernel, rfl⟩⟩
theorem r_12_product_40 : RB M_X12_product 40 .goto 44 43 := ⟨4, by decide +kernel, rfl, rfl⟩
theorem r_12_product_64 : RL M_X12_product 64 1 65 := Or.inl ⟨1, by decide +kernel, rfl, rfl⟩
theorem r_12_product_65 : RL M_X12_product 65 3 66 := Or.inl ⟨3, by decide +kernel, rfl, rfl⟩
theorem r_12_product_66 : RW M_X12_product 66 .imul 67 1 := ⟨by decide +kernel, rfl⟩
theorem r_12_product_67 : RB M_X12_product 67 .goto 81 70 := ⟨14, by decide +kernel, rfl, rfl⟩
theorem r_12_product_21 : RA M_X12_product 21 0 22 := Or.inl ⟨0, by decide +kernel, rfl, rfl⟩
theorem r_12_product_22 : RKv M_X12_product M_X12_byteAt 22 0 12 25 := ⟨337, by decide +kernel, wd_m12_337, ok_M_X12_byteAt, wd_s12_byteAt, rfl⟩
theorem r_12_product_25 : RC M_X12_product 25 47 27 := ⟨⟨by decide, by decide⟩, Or.inr (Or.inl ⟨by decide +kernel, by decide, rfl⟩)⟩
theorem r_12_product_27 : RB M_X12_product 27 (.if_icmp .ne) 85 30 := ⟨58, by decide +kernel, rfl, rfl⟩
theorem r_12_one_0 : RA M_X12_one 0 0 1 := Or.inl ⟨0, by decide +kernel, rfl, rfl⟩
theorem r_12_one_1 : RG M_X12_one 1 12 47 4 := ⟨334, _, by decide +kernel, rfl, by decide, wd_f12_334, rfl, rfl⟩
theorem r_12_one_4 : RB M_X12_one 4 (.ifCond .lt) 9 7 := ⟨5, by decide +kernel, rfl, rfl⟩
theorem r_12_one_9 : RA M_X12_one 9 0 10 := Or.inl ⟨0, by decide +kernel, rfl, rfl⟩
theorem r_12_one_10 : RKv M_X12_one M_X12_byteAt 10 0 12 13 := ⟨337, by decide +kernel, wd_m12_337, ok_M_X12_byteAt, wd_s12_byteAt, rfl⟩
theorem r_12_one_13 : RS M_X12_one 13 1 14 := ⟨by decide, Or.inl ⟨1, by decide +kernel, rfl, rfl⟩⟩
theorem r_12_one_14 : RL M_X12_one 14 1 15 := Or.inl ⟨1, by decide +kernel, rfl, rfl⟩
theorem r_12_one_15 : RC M_X12_one 15 33 17 := ⟨⟨by decide, by decide⟩, Or.inr (Or.inl ⟨by decide +kernel, by decide, rfl⟩)⟩
theorem r_12_one_17 : RB M_X12_one 17 (.if_icmp .eq) 26 20 := ⟨9, by decide +kernel, rfl, rfl⟩
theorem r_12_one_26 : RA M_X12_one 26 0 27 := Or.inl ⟨0, by decide +kernel, rfl, rfl⟩
theorem r_12_one_27 : RG M_X12_one 27 12 48 30 := ⟨358, _, by decide +kernel, rfl, by decide, wd_f12_358, rfl, rfl⟩
theorem r_12_one_30 : RC M_X12_one 30 8 32 := ⟨⟨by decide, by decide⟩, Or.inr (Or.inl ⟨by decide +kernel, by decide, rfl⟩)⟩
theorem r_12_one_32 : RB M_X12_one 32 (.if_icmp .ne) 40 35 := ⟨8, by decide +kernel, rfl, rfl⟩
theorem r_12_one_40 : RA M_X12_one 40 0 41 := Or.inl ⟨0, by decide +kernel, rfl, rfl⟩
theorem r_12_one_41 : RW M_X12_one 41 .dup 42 1 := ⟨by decide +kernel, rfl⟩
theorem r_12_one_42 : RG M_X12_one 42 12 48 45 := ⟨358, _, by decide +kernel, rfl, by decide, wd_f12_358, rfl, rfl⟩
theorem r_12_one_45 : RC M_X12_one 45 1 46 := ⟨⟨by decide, by decide⟩, Or.inl ⟨by decide +kernel, rfl⟩⟩
theorem r_12_one_46 : RW M_X12_one 46 .iadd 47 1 := ⟨by decide +kernel, rfl⟩
theorem r_12_one_47 : RP M_X12_one 47 12 48 50 := ⟨358, _, by decide +kernel, rfl, by decide, wd_f12_358, rfl, Or.inl rfl, rfl⟩
theorem r_12_one_50 : RA M_X12_one 50 0 51 := Or.inl ⟨0, by decide +kernel, rfl, rfl⟩
theorem r_12_one_51 : RW M_X12_one 51 .dup 52 1 := ⟨by decide +kernel, rfl⟩
theorem r_12_one_52 : RG M_X12_one 52 12 45 55 := ⟨325, _, by decide +kernel, rfl, by decide, wd_f12_325, rfl, rfl⟩
theorem r_12_one_55 : RC M_X12_one 55 1 56 := ⟨⟨by decide, by decide⟩, Or.inl ⟨by decide +kernel, rfl⟩⟩
theorem r_12_one_56 : RW M_X12_one 56 .iadd 57 1 := ⟨by decide +kernel, rfl⟩
theorem r_12_one_57 : RP M_X12_one 57 12 45 60 := ⟨325, _, by decide +kernel, rfl, by decide, wd_f12_325, rfl, Or.inl rfl, rfl⟩
theorem r_12_one_60 : RL M_X12_one 60 1 61 := Or.inl ⟨1, by decide +kernel, rfl, rfl⟩
theorem r_12_one_61 : RC M_X12_one 61 40 63 := ⟨⟨by decide, by decide⟩, Or.inr (Or.inl ⟨by decide +kernel, by decide, rfl⟩)⟩
theorem r_12_one_63 : RB M_X12_one 63 (.if_icmp .ne) 73 66 := ⟨10, by decide +kernel, rfl, rfl⟩
theorem r_12_one_73 : RA M_X12_one 73 0 74 := Or.inl ⟨0, by decide +kernel, rfl, rfl⟩
theorem r_12_one_74 : RKv M_X12_one M_X12_one 74 0 12 77 := ⟨355, by decide +kernel, wd_m12_355, ok_M_X12_one, wd_s12_one, rfl⟩
theorem r_12_one_77 : RS M_X12_one 77 2 78 := ⟨by decide, Or.inl ⟨2, by decide +kernel, rfl, rfl⟩⟩
theorem r_12_one_78 : RL M_X12_one 78 1 79 := Or.inl ⟨1, by decide +kernel, rfl, rfl⟩
theorem r_12_one_79 : RC M_X12_one 79 40 81 := ⟨⟨by decide, by decide⟩, Or.inr (Or.inl ⟨by decide +kernel, by decide, rfl⟩)⟩
theorem r_12_one_81 : RB M_X12_one 81 (.if_icmp .ne) 98 84 := ⟨17, by decide +kernel, rfl, rfl⟩
theorem r_12_one_98 : RA M_X12_one 98 0 99 := Or.inl ⟨0, by decide +kernel, rfl, rfl⟩
theorem r_12_one_99 : RW M_X12_one 99 .dup 100 1 := ⟨by decide +kernel, rfl⟩
theorem r_12_one_100 : RG M_X12_one 100 12 48 103 := ⟨358, _, by decide +kernel, rfl, by decide, wd_f12_358, rfl, rfl⟩
theorem r_12_one_103 : RC M_X12_one 103 1 104 := ⟨⟨by decide, by decide⟩, Or.inl ⟨by decide +kernel, rfl⟩⟩
theorem r_12_one_104 : RW M_X12_one 104 .isub 105 1 := ⟨by decide +kernel, rfl⟩
theorem r_12_one_105 : RP M_X12_one 105 12 48 108 := ⟨358, _, by decide +kernel, rfl, by decide, wd_f12_358, rfl, Or.inl rfl, rfl⟩
theorem r_12_one_108 : RL M_X12_one 108 1 109 := Or.inl ⟨1, by decide +kernel, rfl, rfl⟩
theorem r_12_one_109 : RC M_X12_one 109 40 111 := ⟨⟨by decide, by decide⟩, Or.inr (Or.inl ⟨by decide +kernel, by decide, rfl⟩)⟩
theorem r_12_one_111 : RB M_X12_one 111 (.if_icmp .ne) 118 114 := ⟨7, by decide +kernel, rfl, rfl⟩
theorem r_12_one_118 : RL M_X12_one 118 2 119 := Or.inl ⟨2, by decide +kernel, rfl, rfl⟩
theorem r_12_one_119 : RB M_X12_one 119 (.ifCond .ne) 126 122 := ⟨7, by decide +kernel, rfl, rfl⟩
theorem r_12_one_126 : RC M_X12_one 126 0 127 := ⟨⟨by decide, by decide⟩, Or.inl ⟨by decide +kernel, rfl⟩⟩
theorem r_12_one_127 : RW M_X12_one 127 .ireturn 128 1 := ⟨by decide +kernel, rfl⟩
theorem r_12_one_122 : RC M_X12_one 122 1 123 := ⟨⟨by decide, by decide⟩, Or.inl ⟨by decide +kernel, rfl⟩⟩
theorem r_12_one_123 : RB M_X12_one 123 .goto 127 126 := ⟨4, by decide +kernel, rfl, rfl⟩
theorem r_12_one_66 : RA M_X12_one 66 0 67 := Or.inl ⟨0, by decide +kernel, rfl, rfl⟩
theorem r_12_one_67 : RKv M_X12_one M_X12_either 67 0 12 70 := ⟨364, by decide +kernel, wd_m12_364, ok_M_X12_either, wd_s12_either, rfl⟩
theorem r_12_one_70 : RB M_X12_one 70 .goto 77 73 := ⟨7, by decide +kernel, rfl, rfl⟩
theorem r_12_one_84 : RA M_X12_one 84 0 85 := Or.inl ⟨0, by decide +kernel, rfl, rfl⟩
theorem r_12_one_85 : RC M_X12_one 85 41 87 := ⟨⟨by decide, by decide⟩, Or.inr (Or.inl ⟨by decide +kernel, by decide, rfl⟩)⟩
theorem r_12_one_87 : RKv M_X12_one M_X12_takes 87 1 12 90 := ⟨343, by decide +kernel, wd_m12_343, ok_M_X12_takes, wd_s12_takes, rfl⟩
theorem r_12_one_90 : RB M_X12_one 90 (.ifCond .ne) 98 93 := ⟨8, by decide +kernel, rfl, rfl⟩
theorem r_12_one_93 : RA M_X12_one 93 0 94 := Or.inl ⟨0, by decide +kernel, rfl, rfl⟩
theorem r_12_one_94 : RKv M_X12_one M_X12_wrong 94 0 12 97 := ⟨361, by decide +kernel, wd_m12_361, ok_M_X12_wrong, wd_s12_wrong, rfl⟩
theorem r_12_one_97 : RW M_X12_one 97 .ireturn 98 1 := ⟨by decide +kernel, rfl⟩
theorem r_12_one_114 : RL M_X12_one 114 2 115 := Or.inl ⟨2, by decide +kernel, rfl, rfl⟩
theorem r_12_one_115 : RB M_X12_one 115 .goto 127 118 := ⟨12, by decide +kernel, rfl, rfl⟩
theorem r_12_one_35 : RA M_X12_one 35 0 36 := Or.inl ⟨0, by decide +kernel, rfl, rfl⟩
theorem r_12_one_36 : RKv M_X12_one M_X12_wrong 36 0 12 39 := ⟨361, by decide +kernel, wd_m12_361, ok_M_X12_wrong, wd_s12_wrong, rfl⟩
theorem r_12_one_39 : RW M_X12_one 39 .ireturn 40 1 := ⟨by decide +kernel, rfl⟩
theorem r_12_one_20 : RL M_X12_one 20 1 21 := Or.inl ⟨1, by decide +kernel, rfl, rfl⟩
theorem r_12_one_21 : RC M_X12_one 21 40 23 := ⟨⟨by decide, by decide⟩, Or.inr (Or.inl ⟨by decide +kernel, by decide, rfl⟩)⟩
theorem r_12_one_23 : RB M_X12_one 23 (.if_icmp .ne) 128 26 := ⟨105, by decide +kernel, rfl, rfl⟩
theorem r_12_one_128 : RL M_X12_one 128 1 129 := Or.inl ⟨1, by decide +kernel, rfl, rfl⟩
theorem r_12_one_129 : RKs M_X12_one M_X12_nameOf 129 1 132 := ⟨367, by decide +kernel, Or.inl wd_m12_367, ok_M_X12_nameOf, rfl⟩
theorem r_12_one_132 : RS M_X12_one 132 2 133 := ⟨by decide, Or.inl ⟨2, by decide +kernel, rfl, rfl⟩⟩
theorem r_12_one_133 : RL M_X12_one 133 2 134 := Or.inl ⟨2, by decide +kernel, rfl, rfl⟩
theorem r_12_one_134 : RB M_X12_one 134 (.ifCond .lt) 154 137 := ⟨20, by decide +kernel, rfl, rfl⟩
theorem r_12_one_154 : RC M_X12_one 154 0 155 := ⟨⟨by decide, by decide⟩, Or.inl ⟨by decide +kernel, rfl⟩⟩
theorem r_12_one_155 : RS M_X12_one 155 3 156 := ⟨by decide, Or.inl ⟨3, by decide +kernel, rfl, rfl⟩⟩
theorem r_12_one_156 : RC M_X12_one 156 0 157 := ⟨⟨by decide, by decide⟩, Or.inl ⟨by decide +kernel, rfl⟩⟩
theorem r_12_one_157 : RS M_X12_one 157 4 159 := ⟨by decide, Or.inr ⟨by decide +kernel, rfl⟩⟩
theorem r_12_one_212 : RL M_X12_one 212 4 214 := Or.inr ⟨by decide +kernel, rfl⟩
theorem r_12_one_214 : RB M_X12_one 214 (.ifCond .ne) 224 217 := ⟨10, by decide +kernel, rfl, rfl⟩
theorem r_12_one_224 : RL M_X12_one 224 3 225 := Or.inl ⟨3, by decide +kernel, rfl, rfl⟩
theorem r_12_one_225 : RW M_X12_one 225 .ireturn 226 1 := ⟨by decide +kernel, rfl⟩
theorem r_12_one_217 : RA M_X12_one 217 0 218 := Or.inl ⟨0, by decide +kernel, rfl, rfl⟩
theorem r_12_one_218 : RKv M_X12_one M_X12_wrong 218 0 12 221 := ⟨361, by decide +kernel, wd_m12_361, ok_M_X12_wrong, wd_s12_wrong, rfl⟩
theorem r_12_one_221 : RB M_X12_one 221 .goto 225 224 := ⟨4, by decide +kernel, rfl, rfl⟩
theorem r_12_one_159 : RL M_X12_one 159 4 161 := Or.inr ⟨by decide +kernel, rfl⟩
theorem r_12_one_161 : RC M_X12_one 161 4 162 := ⟨⟨by decide, by decide⟩, Or.inl ⟨by decide +kernel, rfl⟩⟩
theorem r_12_one_162 : RB M_X12_one 162 (.if_icmp .ge) 212 165 := ⟨50, by decide +kernel, rfl, rfl⟩
theorem r_12_one_165 : RA M_X12_one 165 0 166 := Or.inl ⟨0, by decide +kernel, rfl, rfl⟩
theorem r_12_one_166 : RKv M_X12_one M_X12_byteAt 166 0 12 169 := ⟨337, by decide +kernel, wd_m12_337, ok_M_X12_byteAt, wd_s12_byteAt, rfl⟩
theorem r_12_one_169 : RC M_X12_one 169 48 171 := ⟨⟨by decide, by decide⟩, Or.inr (Or.inl ⟨by decide +kernel, by decide, rfl⟩)⟩
theorem r_12_one_171 : RB M_X12_one 171 (.if_icmp .lt) 212 174 := ⟨41, by decide +kernel, rfl, rfl⟩
theorem r_12_one_174 : RA M_X12_one 174 0 175 := Or.inl ⟨0, by decide +kernel, rfl, rfl⟩
theorem r_12_one_175 : RKv M_X12_one M_X12_byteAt 175 0 12 178 := ⟨337, by decide +kernel, wd_m12_337, ok_M_X12_byteAt, wd_s12_byteAt, rfl⟩
theorem r_12_one_178 : RC M_X12_one 178 57 180 := ⟨⟨by decide, by decide⟩, Or.inr (Or.inl ⟨by decide +kernel, by decide, rfl⟩)⟩
theorem r_12_one_180 : RB M_X12_one 180 (.if_icmp .gt) 212 183 := ⟨32, by decide +kernel, rfl, rfl⟩
theorem r_12_one_183 : RC M_X12_one 183 10 185 := ⟨⟨by decide, by decide⟩, Or.inr (Or.inl ⟨by decide +kernel, by decide, rfl⟩)⟩
theorem r_12_one_185 : RL M_X12_one 185 3 186 := Or.inl ⟨3, by decide +kernel, rfl, rfl⟩
theorem r_12_one_186 : RW M_X12_one 186 .imul 187 1 := ⟨by decide +kernel, rfl⟩
theorem r_12_one_187 : RA M_X12_one 187 0 188 := Or.inl ⟨0, by decide +kernel, rfl, rfl⟩
theorem r_12_one_188 : RKv M_X12_one M_X12_byteAt 188 0 12 191 := ⟨337, by decide +kernel, wd_m12_337, ok_M_X12_byteAt, wd_s12_byteAt, rfl⟩
theorem r_12_one_191 : RW M_X12_one 191 .iadd 192 1 := ⟨by decide +kernel, rfl⟩
theorem r_12_one_192 : RC M_X12_one 192 48 194 := ⟨⟨by decide, by decide⟩, Or.inr (Or.inl ⟨by decide +kernel, by decide, rfl⟩)⟩
theorem r_12_one_194 : RW M_X12_one 194 .isub 195 1 := ⟨by decide +kernel, rfl⟩
theorem r_12_one_195 : RS M_X12_one 195 3 196 := ⟨by decide, Or.inl ⟨3, by decide +kernel, rfl, rfl⟩⟩
theorem r_12_one_196 : RI M_X12_one 196 4 1 199 := ⟨by decide, by decide +kernel, rfl⟩
theorem r_12_one_199 : RA M_X12_one 199 0 200 := Or.inl ⟨0, by decide +kernel, rfl, rfl⟩
theorem r_12_one_200 : RW M_X12_one 200 .dup 201 1 := ⟨by decide +kernel, rfl⟩
theorem r_12_one_201 : RG M_X12_one 201 12 45 204 := ⟨325, _, by decide +kernel, rfl, by decide, wd_f12_325, rfl, rfl⟩
theorem r_12_one_204 : RC M_X12_one 204 1 205 := ⟨⟨by decide, by decide⟩, Or.inl ⟨by decide +kernel, rfl⟩⟩
theorem r_12_one_205 : RW M_X12_one 205 .iadd 206 1 := ⟨by decide +kernel, rfl⟩
theorem r_12_one_206 : RP M_X12_one 206 12 45 209 := ⟨325, _, by decide +kernel, rfl, by decide, wd_f12_325, rfl, Or.inl rfl, rfl⟩
theorem r_12_one_209 : RB M_X12_one 209 .goto 159 212 := ⟨(-50), by decide +kernel, rfl, rfl⟩
theorem r_12_one_137 : RA M_X12_one 137 0 138 := Or.inl ⟨0, by decide +kernel, rfl, rfl⟩
theorem r_12_one_138 : RW M_X12_one 138 .dup 139 1 := ⟨by decide +kernel, rfl⟩
theorem r_12_one_139 : RG M_X12_one 139 12 45 142 := ⟨325, _, by decide +kernel, rfl, by decide, wd_f12_325, rfl, rfl⟩
theorem r_12_one_142 : RC M_X12_one 142 1 143 := ⟨⟨by decide, by decide⟩, Or.inl ⟨by decide +kernel, rfl⟩⟩
theorem r_12_one_143 : RW M_X12_one 143 .iadd 144 1 := ⟨by decide +kernel, rfl⟩
theorem r_12_one_144 : RP M_X12_one 144 12 45 147 := ⟨325, _, by decide +kernel, rfl, by decide, wd_f12_325, rfl, Or.inl rfl, rfl⟩
theorem r_12_one_147 : RA M_X12_one 147 0 148 := Or.inl ⟨0, by decide +kernel, rfl, rfl⟩
theorem r_12_one_148 : RG M_X12_one 148 12 49 151 := ⟨115, _, by decide +kernel, rfl, by decide, wd_f12_115, rfl, rfl⟩
theorem r_12_one_151 : RL M_X12_one 151 2 152 := Or.inl ⟨2, by decide +kernel, rfl, rfl⟩
theorem r_12_one_152 : RW M_X12_one 152 .iaload 153 1 := ⟨by decide +kernel, rfl⟩
theorem r_12_one_153 : RW M_X12_one 153 .ireturn 154 1 := ⟨by decide +kernel, rfl⟩
set_option maxRecDepth 10000 in
theorem byO {l : Launch} {w : Wo} {d : Nat} {G : PH} {P : Option PV → PH → Prop} {n a bs : Int} {b : Int → Int} (hb : ∀ j, 0 ≤ j → j < n → b j = if bs < 0 then gA G 228 0 j else gA G 229 0 (bs + j)) (hbs : (gF G 12 0 44) = bs) (hba : bs ≤ 3040) (hn : (gF G 12 0 46) = n) (hnn : 0 ≤ n ∧ n ≤ 160) (ha : (gF G 12 0 45) = a) (haa : 0 ≤ a ∧ a ≤ n) (hP : P (some (vI (byt b n a))) G) : PW l w M_X12_byteAt (d + 0) 0 [some (vR 12 (0))] [] G P := by
  refine pw_aload r_12_byteAt_0 rfl ?_
  refine pw_getI r_12_byteAt_1 fs_12_45 (by decide) ?_
  refine pw_aload r_12_byteAt_4 rfl ?_
  refine pw_getI r_12_byteAt_5 fs_12_46 (by decide) ?_
  refine pw_icmp_ge r_12_byteAt_8 (fun h08 => ?_) (fun h08 => ?_)
  · skip
    refine pw_const r_12_byteAt_47 ?_
    refine pw_iret r_12_byteAt_48 rfl (Nat.le_refl _) ⟨rfl, ?_⟩
    first | (exfalso; omega) | (rw [show byt b n a = 0 from if_neg (by omega)] at hP; exact hP) | (rw [show byt b n a = gA G 228 0 (gF G 12 0 45) from (if_pos (by omega)).trans (by rw [ha, hb a (by omega) (by omega), if_pos (by omega)])] at hP; exact hP) | (rw [show byt b n a = gA G 229 0 (gF G 12 0 44 + gF G 12 0 45) from (if_pos (by omega)).trans (by rw [ha, hbs, hb a (by omega) (by omega), if_neg (by omega)])] at hP; exact hP)
  · skip
    refine pw_aload r_12_byteAt_11 rfl ?_
    refine pw_getI r_12_byteAt_12 fs_12_44 (by decide) ?_
    refine pw_if_ge r_12_byteAt_15 (fun h15 => ?_) (fun h15 => ?_)
    · skip
      refine pw_aload r_12_byteAt_30 rfl ?_
      refine pw_getR r_12_byteAt_31 fs_12_37 (by decide) ?_
      refine pw_aload r_12_byteAt_34 rfl ?_
      refine pw_getI r_12_byteAt_35 fs_12_44 (by decide) ?_
      refine pw_aload r_12_byteAt_38 rfl ?_
      refine pw_getI r_12_byteAt_39 fs_12_45 (by decide) ?_
      refine pw_iadd r_12_byteAt_42 (by omega) ?_
      refine pw_iald r_12_byteAt_43 sh229 (by omega) (by omega) ?_
      refine pw_goto r_12_byteAt_44 ?_
      refine pw_iret r_12_byteAt_48 rfl (Nat.le_refl _) ⟨rfl, ?_⟩
      first | (exfalso; omega) | (rw [show byt b n a = 0 from if_neg (by omega)] at hP; exact hP) | (rw [show byt b n a = gA G 228 0 (gF G 12 0 45) from (if_pos (by omega)).trans (by rw [ha, hb a (by omega) (by omega), if_pos (by omega)])] at hP; exact hP) | (rw [show byt b n a = gA G 229 0 (gF G 12 0 44 + gF G 12 0 45) from (if_pos (by omega)).trans (by rw [ha, hbs, hb a (by omega) (by omega), if_neg (by omega)])] at hP; exact hP)
    · skip
      refine pw_aload r_12_byteAt_18 rfl ?_
      refine pw_getR r_12_byteAt_19 fs_12_35 (by decide) ?_
      refine pw_aload r_12_byteAt_22 rfl ?_
      refine pw_getI r_12_byteAt_23 fs_12_45 (by decide) ?_
      refine pw_iald r_12_byteAt_26 sh228 (by omega) (by omega) ?_
      refine pw_goto r_12_byteAt_27 ?_
      refine pw_iret r_12_byteAt_48 rfl (Nat.le_refl _) ⟨rfl, ?_⟩
      first | (exfalso; omega) | (rw [show byt b n a = 0 from if_neg (by omega)] at hP; exact hP) | (rw [show byt b n a = gA G 228 0 (gF G 12 0 45) from (if_pos (by omega)).trans (by rw [ha, hb a (by omega) (by omega), if_pos (by omega)])] at hP; exact hP) | (rw [show byt b n a = gA G 229 0 (gF G 12 0 44 + gF G 12 0 45) from (if_pos (by omega)).trans (by rw [ha, hbs, hb a (by omega) (by omega), if_neg (by omega)])] at hP; exact hP)
set_option maxRecDepth 10000 in
theorem tkO {l : Launch} {w : Wo} {d : Nat} {G : PH} {P : Option PV → PH → Prop} {c n a bs : Int} {b : Int → Int} (hb : ∀ j, 0 ≤ j → j < n → b j = if bs < 0 then gA G 228 0 j else gA G 229 0 (bs + j)) (hbs : (gF G 12 0 44) = bs) (hba : bs ≤ 3040) (hn : (gF G 12 0 46) = n) (hnn : 0 ≤ n ∧ n ≤ 160) (ha : (gF G 12 0 45) = a) (haa : 0 ≤ a ∧ a ≤ n) (hf : (gF G 12 0 47) < 0) (h1 : byt b n a ≠ c → P (some (vI 0)) G) (h2 : byt b n a = c → P (some (vI 1)) (sF G 12 0 45 (a + 1))) : PW l w M_X12_takes (d + 1) 0 [some (vR 12 (0)), some (vI (c))] [] G P := by
  refine pw_aload r_12_takes_0 rfl ?_
  refine pw_getI r_12_takes_1 fs_12_47 (by decide) ?_
  refine pw_if_ge r_12_takes_4 (fun h04 => ?_) (fun h04 => ?_)
  · skip
    refine pw_const r_12_takes_15 ?_
    refine pw_zret r_12_takes_16 rfl (Or.inl rfl) (Nat.le_refl _) ⟨rfl, ?_⟩
    first | (exfalso; omega) | exact h1 (by omega) | (rw [← ha] at h2; exact h2 (by omega)) | (rw [ha]; exact h2 (by omega))
  · skip
    refine pw_aload r_12_takes_7 rfl ?_
    refine pw_callV (av := []) (st := []) (ls0 := [some (vR 12 (0))]) r_12_takes_8 rfl rfl rfl (Nat.le_refl _) ?_
    refine byO (n := n) (a := a) (bs := bs) (b := b) (by exact hb) (by first | exact hbs | (simp (disch := decide) only [gF_sF]; first | done | exact hbs | omega | (simp; first | done | omega))) (by first | assumption | exact hba | omega) (by first | exact hn | (simp (disch := decide) only [gF_sF]; first | done | exact hn | omega | (simp; first | done | omega))) (by first | assumption | exact hnn | omega) (by first | exact ha | rfl | (simp (disch := decide) only [gF_sF]; first | done | omega | (simp; first | done | omega))) (by first | assumption | exact haa | omega) ?_
    refine pw_iload r_12_takes_11 rfl ?_
    refine pw_icmp_eq r_12_takes_12 (fun h12 => ?_) (fun h12 => ?_)
    · skip
      refine pw_aload r_12_takes_17 rfl ?_
      refine pw_dup r_12_takes_18 rfl ?_
      refine pw_getI r_12_takes_19 fs_12_45 (by decide) ?_
      refine pw_const r_12_takes_22 ?_
      refine pw_iadd r_12_takes_23 (by omega) ?_
      refine pw_putI r_12_takes_24 (by decide +kernel) fs_12_45 (by decide) ?_
      refine pw_const r_12_takes_27 ?_
      refine pw_zret r_12_takes_28 rfl (Or.inr rfl) (Nat.le_refl _) ⟨rfl, ?_⟩
      first | (exfalso; omega) | exact h1 (by omega) | (rw [← ha] at h2; exact h2 (by omega)) | (rw [ha]; exact h2 (by omega))
    · skip
      refine pw_const r_12_takes_15 ?_
      refine pw_zret r_12_takes_16 rfl (Or.inl rfl) (Nat.le_refl _) ⟨rfl, ?_⟩
      first | (exfalso; omega) | exact h1 (by omega) | (rw [← ha] at h2; exact h2 (by omega)) | (rw [ha]; exact h2 (by omega))
set_option maxRecDepth 10000 in
theorem tkF {l : Launch} {w : Wo} {d : Nat} {G : PH} {P : Option PV → PH → Prop} {c : Int} (hf9 : 0 ≤ (gF G 12 0 47)) (hP : P (some (vI 0)) G) : PW l w M_X12_takes (d + 0) 0 [some (vR 12 (0)), some (vI (c))] [] G P := by
  refine pw_aload r_12_takes_0 rfl ?_
  refine pw_getI r_12_takes_1 fs_12_47 (by decide) ?_
  refine pw_if_ge r_12_takes_4 (fun h04 => ?_) (fun h04 => absurd h04 (by omega))
  refine pw_const r_12_takes_15 ?_
  refine pw_zret r_12_takes_16 rfl (Or.inl rfl) (Nat.le_refl _) ⟨rfl, ?_⟩
  exact hP
set_option maxRecDepth 10000 in
theorem wrO {l : Launch} {w : Wo} {d : Nat} {G : PH} {P : Option PV → PH → Prop} {a : Int} (ha : (gF G 12 0 45) = a) (hf : (gF G 12 0 47) < 0) (hP : P (some (vI 0)) (sF G 12 0 47 a)) : PW l w M_X12_wrong (d + 0) 0 [some (vR 12 (0))] [] G P := by
  refine pw_aload r_12_wrong_0 rfl ?_
  refine pw_aload r_12_wrong_1 rfl ?_
  refine pw_getI r_12_wrong_2 fs_12_47 (by decide) ?_
  refine pw_if_ge r_12_wrong_5 (fun h05 => ?_) (fun h05 => ?_)
  · skip
    refine pw_aload r_12_wrong_15 rfl ?_
    refine pw_getI r_12_wrong_16 fs_12_47 (by decide) ?_
    refine pw_putI r_12_wrong_19 (by decide +kernel) fs_12_47 (by decide) ?_
    refine pw_const r_12_wrong_22 ?_
    refine pw_iret r_12_wrong_23 rfl (Nat.le_refl _) ⟨rfl, ?_⟩
    first | (exfalso; omega) | (rw [← ha] at hP; exact hP)
  · skip
    refine pw_aload r_12_wrong_8 rfl ?_
    refine pw_getI r_12_wrong_9 fs_12_45 (by decide) ?_
    refine pw_goto r_12_wrong_12 ?_
    refine pw_putI r_12_wrong_19 (by decide +kernel) fs_12_47 (by decide) ?_
    refine pw_const r_12_wrong_22 ?_
    refine pw_iret r_12_wrong_23 rfl (Nat.le_refl _) ⟨rfl, ?_⟩
    first | (exfalso; omega) | (rw [← ha] at hP; exact hP)
set_option maxRecDepth 10000 in
theorem wrF {l : Launch} {w : Wo} {d : Nat} {G : PH} {P : Option PV → PH → Prop} (hf9 : 0 ≤ (gF G 12 0 47)) (hP : P (some (vI 0)) G) : PW l w M_X12_wrong (d + 0) 0 [some (vR 12 (0))] [] G P := by
  refine pw_aload r_12_wrong_0 rfl ?_
  refine pw_aload r_12_wrong_1 rfl ?_
  refine pw_getI r_12_wrong_2 fs_12_47 (by decide) ?_
  refine pw_if_ge r_12_wrong_5 (fun h05 => ?_) (fun h05 => ?_)
  · skip
    refine pw_aload r_12_wrong_15 rfl ?_
    refine pw_getI r_12_wrong_16 fs_12_47 (by decide) ?_
    refine pw_putI r_12_wrong_19 (by decide +kernel) fs_12_47 (by decide) ?_
    refine pw_const r_12_wrong_22 ?_
    refine pw_iret r_12_wrong_23 rfl (Nat.le_refl _) ⟨rfl, ?_⟩
    first | (exfalso; omega) | (rw [sF_self]; exact hP)
  · skip
    refine pw_aload r_12_wrong_8 rfl ?_
    refine pw_getI r_12_wrong_9 fs_12_45 (by decide) ?_
    refine pw_goto r_12_wrong_12 ?_
    refine pw_putI r_12_wrong_19 (by decide +kernel) fs_12_47 (by decide) ?_
    refine pw_const r_12_wrong_22 ?_
    refine pw_iret r_12_wrong_23 rfl (Nat.le_refl _) ⟨rfl, ?_⟩
    first | (exfalso; omega) | (rw [sF_self]; exact hP)
set_option maxRecDepth 10000 in
theorem sp_X12_either_s {l : Launch} {w : Wo} (nR : Nat) (ih0 : ∀ {d : Nat} {G : PH} {P : Option PV → PH → Prop} {o n a bs : Int} {b e : Int → Int}, (10 * (8 - o) + 7 < (nR : Int)) → (∀ j, 0 ≤ j → j < n → b j = if bs < 0 then gA G 228 0 j else gA G 229 0 (bs + j)) → ((gF G 12 0 44) = bs) → (bs ≤ 3040) → ((gF G 12 0 46) = n) → (0 ≤ n ∧ n ≤ 160) → ((gF G 12 0 45) = a) → (0 ≤ a ∧ a ≤ n) → ((gF G 12 0 47) < 0) → (0 ≤ o ∧ o ≤ 8) → ((gF G 12 0 48) = o) → (∀ j, 0 ≤ j → j < 9 → (gA G 235 0 (j)) = e j) → (∀ f v x, EvX b n 1 o a none (.inl f) → a ≤ f → f ≤ n → o ≤ x → x ≤ 8 → P (some (vI v)) (sF (sF (sF G 12 0 45 f) 12 0 48 x) 12 0 47 f)) → (∀ a1 s1, EvX b n 1 o a none (.inr (a1, s1)) → a ≤ a1 → a1 ≤ n → P (some (vI (s1 e))) (sF (sF G 12 0 45 a1) 12 0 48 o)) → PW l w M_X12_both (d + nR + 2) 0 [some (vR 12 (0)), none, none] [] G P) : ∀ {d : Nat} {G : PH} {P : Option PV → PH → Prop} {o n a bs : Int} {b e : Int → Int}, (10 * (8 - o) + 8 < ((nR + 1) : Int)) → (∀ j, 0 ≤ j → j < n → b j = if bs < 0 then gA G 228 0 j else gA G 229 0 (bs + j)) → ((gF G 12 0 44) = bs) → (bs ≤ 3040) → ((gF G 12 0 46) = n) → (0 ≤ n ∧ n ≤ 160) → ((gF G 12 0 45) = a) → (0 ≤ a ∧ a ≤ n) → ((gF G 12 0 47) < 0) → (0 ≤ o ∧ o ≤ 8) → ((gF G 12 0 48) = o) → (∀ j, 0 ≤ j → j < 9 → (gA G 235 0 (j)) = e j) → (∀ f v x, EvX b n 0 o a none (.inl f) → a ≤ f → f ≤ n → o ≤ x → x ≤ 8 → P (some (vI v)) (sF (sF (sF G 12 0 45 f) 12 0 48 x) 12 0 47 f)) → (∀ a1 s1, EvX b n 0 o a none (.inr (a1, s1)) → a ≤ a1 → a1 ≤ n → P (some (vI (s1 e))) (sF (sF G 12 0 45 a1) 12 0 48 o)) → PW l w M_X12_either (d + (nR + 1) + 2) 0 [some (vR 12 (0)), none, none] [] G P := by
  intro d G P o n a bs b e hM hb hbs hba hn hnn ha haa hf ho hop hve h1 h2
  rw [show d + (nR + 1) + 2 = d + nR + 3 by omega]
  refine pw_aload r_12_either_0 rfl ?_
  refine pw_callV (av := []) (st := []) (ls0 := [some (vR 12 (0)), none, none]) r_12_either_1 rfl rfl rfl (Nat.le_refl _) ?_
  refine ih0 (d := d) (o := o) (n := n) (a := a) (bs := bs) (b := b) (e := e) (by omega) (by exact hb) (by first | exact hbs | (simp (disch := decide) only [gF_sF]; first | done | exact hbs | omega | (simp; first | done | omega))) (by first | assumption | exact hba | omega) (by first | exact hn | (simp (disch := decide) only [gF_sF]; first | done | exact hn | omega | (simp; first | done | omega))) (by first | assumption | exact hnn | omega) (by first | exact ha | rfl | (simp (disch := decide) only [gF_sF]; first | done | omega | (simp; first | done | omega))) (by first | assumption | exact haa | omega) (by first | exact hf | (simp (disch := decide) only [gF_sF]; first | done | exact hf | omega | (simp; first | done | omega))) (by first | assumption | exact ho | omega) (by first | exact hop | (simp (disch := decide) only [gF_sF]; first | done | exact hop | omega | (simp; first | done | omega))) (by exact hve) ?_ ?_
  · skip
    intro f1 v1 x1 q1 q2 q3 q4 q5
    have hF : EvX b n 0 o a none (.inl f1) := EvX_levF (by decide) q1
    refine pw_istore (ls' := [some (vR 12 (0)), some (vI (v1)), none]) r_12_either_4 rfl rfl ?_
    refine pw_aload r_12_either_5 rfl ?_
    refine pw_const r_12_either_6 ?_
    refine pw_callV (av := [vI (124)]) (st := []) (ls0 := [some (vR 12 (0)), some (vI (124))]) r_12_either_8 rfl rfl rfl (Nat.le_refl _) ?_
    refine tkF (by first | (show 0 ≤ f1; omega) | (simp (disch := decide) only [gF_sF]; first | done | omega | (simp; first | done | omega))) ?_
    refine pw_if_eq r_12_either_11 (fun h11 => ?_) (fun h11 => absurd h11 (by decide))
    refine pw_iload r_12_either_36 rfl ?_
    refine pw_iret r_12_either_37 rfl (Nat.le_refl _) ⟨rfl, ?_⟩
    exact h1 f1 _ x1 hF (by omega) (by omega) q4 q5
  · skip
    intro a1 s1 q1 q2 q3
    refine pw_istore (ls' := [some (vR 12 (0)), some (vI (s1 e)), none]) r_12_either_4 rfl rfl ?_
    have L5 : ∀ (nF : Nat) (p v : Int) (s : Sem), (hp : a ≤ p ∧ p ≤ n) → (hv : v = s e) → (hK : ∀ res, EvX b n 0 o p (some s) res → EvX b n 0 o a none res) → (n - p).toNat < nF → PW l w M_X12_either (d + nR + 3) 5 [some (vR 12 (0)), some (vI (v)), none] [] (sF (sF G 12 (0) 45 (p)) 12 (0) 48 (o)) P := by
      intro nF
      induction nF with
      | zero => intro _ _ _ _ _ _ hM; exact absurd hM (Nat.not_lt_zero _)
      | succ nF ih5 =>
        intro p v s hp hv hK hM5
        have hbp := byt_sgn b n p
        have hrk := rk_iff (sgn b n p)
        refine pw_aload r_12_either_5 rfl ?_
        refine pw_const r_12_either_6 ?_
        refine pw_callV (av := [vI (124)]) (st := []) (ls0 := [some (vR 12 (0)), some (vI (124))]) r_12_either_8 rfl rfl rfl (Nat.le_refl _) ?_
        refine tkO (n := n) (a := p) (bs := bs) (b := b) (by exact hb) (by first | exact hbs | (simp (disch := decide) only [gF_sF]; first | done | exact hbs | omega | (simp; first | done | omega))) (by first | assumption | exact hba | omega) (by first | exact hn | (simp (disch := decide) only [gF_sF]; first | done | exact hn | omega | (simp; first | done | omega))) (by first | assumption | exact hnn | omega) (by first | exact ha | rfl | (simp (disch := decide) only [gF_sF]; first | done | omega | (simp; first | done | omega))) (by first | assumption | exact haa | omega) (by first | exact hf | (simp (disch := decide) only [gF_sF]; first | done | exact hf | omega | (simp; first | done | omega))) ?_ ?_
        · skip
          intro q9
          refine pw_if_eq r_12_either_11 (fun h11 => ?_) (fun h11 => absurd h11 (by decide))
          refine pw_iload r_12_either_36 rfl ?_
          refine pw_iret r_12_either_37 rfl (Nat.le_refl _) ⟨rfl, ?_⟩
          exact pe (h2 p s (hK _ (EvX_end (by omega))) (by omega) (by omega)) hv
        · skip
          intro q9
          refine pw_if_eq r_12_either_11 (fun h11 => absurd h11 (by decide)) (fun h11 => ?_)
          refine pw_aload r_12_either_14 rfl ?_
          refine pw_callV (av := []) (st := []) (ls0 := [some (vR 12 (0)), none, none]) r_12_either_15 rfl rfl rfl (Nat.le_refl _) ?_
          refine ih0 (d := d) (o := o) (n := n) (a := (p + 1)) (bs := bs) (b := b) (e := e) (by omega) (by exact hb) (by first | exact hbs | (simp (disch := decide) only [gF_sF]; first | done | exact hbs | omega | (simp; first | done | omega))) (by first | assumption | exact hba | omega) (by first | exact hn | (simp (disch := decide) only [gF_sF]; first | done | exact hn | omega | (simp; first | done | omega))) (by first | assumption | exact hnn | omega) (by first | exact ha | rfl | (simp (disch := decide) only [gF_sF]; first | done | omega | (simp; first | done | omega))) (by first | assumption | exact haa | omega) (by first | exact hf | (simp (disch := decide) only [gF_sF]; first | done | exact hf | omega | (simp; first | done | omega))) (by first | assumption | exact ho | omega) (by first | exact hop | (simp (disch := decide) only [gF_sF]; first | done | exact hop | omega | (simp; first | done | omega))) (by exact hve) ?_ ?_
          · skip
            intro f1 v1 x1 q1 q2 q3 q4 q5
            have hF : EvX b n 0 o a none (.inl f1) := hK _ (EvX_moreF (by omega) q1)
            refine pw_istore (ls' := [some (vR 12 (0)), some (vI (v)), some (vI (v1))]) r_12_either_18 rfl rfl ?_
            refine pw_iload r_12_either_19 rfl ?_
            refine pw_if_ne r_12_either_20 (fun h20 => ?_) (fun h20 => ?_)
            · skip
              refine pw_const r_12_either_27 ?_
              refine pw_goto r_12_either_28 ?_
              refine pw_istore (ls' := [some (vR 12 (0)), some (vI (1)), some (vI (v1))]) r_12_either_32 rfl rfl ?_
              refine pw_goto r_12_either_33 ?_
              refine pw_aload r_12_either_5 rfl ?_
              refine pw_const r_12_either_6 ?_
              refine pw_callV (av := [vI (124)]) (st := []) (ls0 := [some (vR 12 (0)), some (vI (124))]) r_12_either_8 rfl rfl rfl (Nat.le_refl _) ?_
              refine tkF (by first | (show 0 ≤ f1; omega) | (simp (disch := decide) only [gF_sF]; first | done | omega | (simp; first | done | omega))) ?_
              refine pw_if_eq r_12_either_11 (fun h11 => ?_) (fun h11 => absurd h11 (by decide))
              refine pw_iload r_12_either_36 rfl ?_
              refine pw_eqG (G' := sF (sF (sF G 12 (0) 45 (f1)) 12 (0) 48 (x1)) 12 (0) 47 (f1)) (by first | rfl | (rw [uA_self]; done) | (rw [sA_uA]; done) | (rw [sA_eq]; done) | (simp (disch := decide) only [sA_uA, sA_uA_ne, uA_abs, uA_abs2, uA_uA]; done) | (simp (disch := decide) only [sA_eq, sA_uA, sA_uA_ne, uA_abs, uA_abs2, uA_uA]; done) | (refine PH_ext (fun _ _ _ => ?_) (fun _ _ _ => ?_) (fun _ _ _ => ?_) <;> simp only [gF_sF, gF_sA, gF_uA, gF_sD, gA_sF, gA_sA, gA_uA, gA_sD, gD_sF, gD_sA, gD_uA, gD_sD] <;> (repeat' split) <;> first | rfl | (exfalso; omega) | simp_all)) ?_
              refine pw_iret r_12_either_37 rfl (Nat.le_refl _) ⟨rfl, ?_⟩
              exact h1 f1 _ x1 hF (by omega) (by omega) q4 q5
            · skip
              refine pw_iload r_12_either_23 rfl ?_
              refine pw_if_eq r_12_either_24 (fun h24 => ?_) (fun h24 => ?_)
              · skip
                refine pw_const r_12_either_31 ?_
                refine pw_istore (ls' := [some (vR 12 (0)), some (vI (0)), some (vI (v1))]) r_12_either_32 rfl rfl ?_
                refine pw_goto r_12_either_33 ?_
                refine pw_aload r_12_either_5 rfl ?_
                refine pw_const r_12_either_6 ?_
                refine pw_callV (av := [vI (124)]) (st := []) (ls0 := [some (vR 12 (0)), some (vI (124))]) r_12_either_8 rfl rfl rfl (Nat.le_refl _) ?_
                refine tkF (by first | (show 0 ≤ f1; omega) | (simp (disch := decide) only [gF_sF]; first | done | omega | (simp; first | done | omega))) ?_
                refine pw_if_eq r_12_either_11 (fun h11 => ?_) (fun h11 => absurd h11 (by decide))
                refine pw_iload r_12_either_36 rfl ?_
                refine pw_eqG (G' := sF (sF (sF G 12 (0) 45 (f1)) 12 (0) 48 (x1)) 12 (0) 47 (f1)) (by first | rfl | (rw [uA_self]; done) | (rw [sA_uA]; done) | (rw [sA_eq]; done) | (simp (disch := decide) only [sA_uA, sA_uA_ne, uA_abs, uA_abs2, uA_uA]; done) | (simp (disch := decide) only [sA_eq, sA_uA, sA_uA_ne, uA_abs, uA_abs2, uA_uA]; done) | (refine PH_ext (fun _ _ _ => ?_) (fun _ _ _ => ?_) (fun _ _ _ => ?_) <;> simp only [gF_sF, gF_sA, gF_uA, gF_sD, gA_sF, gA_sA, gA_uA, gA_sD, gD_sF, gD_sA, gD_uA, gD_sD] <;> (repeat' split) <;> first | rfl | (exfalso; omega) | simp_all)) ?_
                refine pw_iret r_12_either_37 rfl (Nat.le_refl _) ⟨rfl, ?_⟩
                exact h1 f1 _ x1 hF (by omega) (by omega) q4 q5
              · skip
                refine pw_const r_12_either_27 ?_
                refine pw_goto r_12_either_28 ?_
                refine pw_istore (ls' := [some (vR 12 (0)), some (vI (1)), some (vI (v1))]) r_12_either_32 rfl rfl ?_
                refine pw_goto r_12_either_33 ?_
                refine pw_aload r_12_either_5 rfl ?_
                refine pw_const r_12_either_6 ?_
                refine pw_callV (av := [vI (124)]) (st := []) (ls0 := [some (vR 12 (0)), some (vI (124))]) r_12_either_8 rfl rfl rfl (Nat.le_refl _) ?_
                refine tkF (by first | (show 0 ≤ f1; omega) | (simp (disch := decide) only [gF_sF]; first | done | omega | (simp; first | done | omega))) ?_
                refine pw_if_eq r_12_either_11 (fun h11 => ?_) (fun h11 => absurd h11 (by decide))
                refine pw_iload r_12_either_36 rfl ?_
                refine pw_eqG (G' := sF (sF (sF G 12 (0) 45 (f1)) 12 (0) 48 (x1)) 12 (0) 47 (f1)) (by first | rfl | (rw [uA_self]; done) | (rw [sA_uA]; done) | (rw [sA_eq]; done) | (simp (disch := decide) only [sA_uA, sA_uA_ne, uA_abs, uA_abs2, uA_uA]; done) | (simp (disch := decide) only [sA_eq, sA_uA, sA_uA_ne, uA_abs, uA_abs2, uA_uA]; done) | (refine PH_ext (fun _ _ _ => ?_) (fun _ _ _ => ?_) (fun _ _ _ => ?_) <;> simp only [gF_sF, gF_sA, gF_uA, gF_sD, gA_sF, gA_sA, gA_uA, gA_sD, gD_sF, gD_sA, gD_uA, gD_sD] <;> (repeat' split) <;> first | rfl | (exfalso; omega) | simp_all)) ?_
                refine pw_iret r_12_either_37 rfl (Nat.le_refl _) ⟨rfl, ?_⟩
                exact h1 f1 _ x1 hF (by omega) (by omega) q4 q5
          · skip
            intro a1 s1 q1 q2 q3
            refine pw_istore (ls' := [some (vR 12 (0)), some (vI (v)), some (vI (s1 e))]) r_12_either_18 rfl rfl ?_
            refine pw_iload r_12_either_19 rfl ?_
            refine pw_if_ne r_12_either_20 (fun h20 => ?_) (fun h20 => ?_)
            · skip
              refine pw_const r_12_either_27 ?_
              refine pw_goto r_12_either_28 ?_
              refine pw_istore (ls' := [some (vR 12 (0)), some (vI (1)), some (vI (s1 e))]) r_12_either_32 rfl rfl ?_
              refine pw_goto r_12_either_33 ?_
              refine pw_weakL (ls' := [some (vR 12 (0)), some (vI (1)), none]) (⟨rfl, ⟨rfl, trivial⟩⟩) ?_
              refine pw_eqG (G' := sF (sF G 12 (0) 45 (a1)) 12 (0) 48 (o)) (by first | rfl | (rw [uA_self]; done) | (rw [sA_uA]; done) | (rw [sA_eq]; done) | (simp (disch := decide) only [sA_uA, sA_uA_ne, uA_abs, uA_abs2, uA_uA]; done) | (simp (disch := decide) only [sA_eq, sA_uA, sA_uA_ne, uA_abs, uA_abs2, uA_uA]; done) | (refine PH_ext (fun _ _ _ => ?_) (fun _ _ _ => ?_) (fun _ _ _ => ?_) <;> simp only [gF_sF, gF_sA, gF_uA, gF_sD, gA_sF, gA_sA, gA_uA, gA_sD, gD_sF, gD_sA, gD_uA, gD_sD] <;> (repeat' split) <;> first | rfl | (exfalso; omega) | simp_all)) ?_
              exact ih5 (a1) (1) ((fun e0 => wk (sgn b n p) (s e0) (s1 e0))) (by first | assumption | omega) (by show _ = wk (sgn b n p) (s e) (s1 e); rw [wk_124 (by omega)]; first | rw [b2i_t (by omega)] | rw [b2i_f (by omega)]) (fun res hres => hK res (EvX_more (by omega) (by decide) q1 hres)) (by omega)
            · skip
              refine pw_iload r_12_either_23 rfl ?_
              refine pw_if_eq r_12_either_24 (fun h24 => ?_) (fun h24 => ?_)
              · skip
                refine pw_const r_12_either_31 ?_
                refine pw_istore (ls' := [some (vR 12 (0)), some (vI (0)), some (vI (s1 e))]) r_12_either_32 rfl rfl ?_
                refine pw_goto r_12_either_33 ?_
                refine pw_weakL (ls' := [some (vR 12 (0)), some (vI (0)), none]) (⟨rfl, ⟨rfl, trivial⟩⟩) ?_
                refine pw_eqG (G' := sF (sF G 12 (0) 45 (a1)) 12 (0) 48 (o)) (by first | rfl | (rw [uA_self]; done) | (rw [sA_uA]; done) | (rw [sA_eq]; done) | (simp (disch := decide) only [sA_uA, sA_uA_ne, uA_abs, uA_abs2, uA_uA]; done) | (simp (disch := decide) only [sA_eq, sA_uA, sA_uA_ne, uA_abs, uA_abs2, uA_uA]; done) | (refine PH_ext (fun _ _ _ => ?_) (fun _ _ _ => ?_) (fun _ _ _ => ?_) <;> simp only [gF_sF, gF_sA, gF_uA, gF_sD, gA_sF, gA_sA, gA_uA, gA_sD, gD_sF, gD_sA, gD_uA, gD_sD] <;> (repeat' split) <;> first | rfl | (exfalso; omega) | simp_all)) ?_
                exact ih5 (a1) (0) ((fun e0 => wk (sgn b n p) (s e0) (s1 e0))) (by first | assumption | omega) (by show _ = wk (sgn b n p) (s e) (s1 e); rw [wk_124 (by omega)]; first | rw [b2i_t (by omega)] | rw [b2i_f (by omega)]) (fun res hres => hK res (EvX_more (by omega) (by decide) q1 hres)) (by omega)
              · skip
                refine pw_const r_12_either_27 ?_
                refine pw_goto r_12_either_28 ?_
                refine pw_istore (ls' := [some (vR 12 (0)), some (vI (1)), some (vI (s1 e))]) r_12_either_32 rfl rfl ?_
                refine pw_goto r_12_either_33 ?_
                refine pw_weakL (ls' := [some (vR 12 (0)), some (vI (1)), none]) (⟨rfl, ⟨rfl, trivial⟩⟩) ?_
                refine pw_eqG (G' := sF (sF G 12 (0) 45 (a1)) 12 (0) 48 (o)) (by first | rfl | (rw [uA_self]; done) | (rw [sA_uA]; done) | (rw [sA_eq]; done) | (simp (disch := decide) only [sA_uA, sA_uA_ne, uA_abs, uA_abs2, uA_uA]; done) | (simp (disch := decide) only [sA_eq, sA_uA, sA_uA_ne, uA_abs, uA_abs2, uA_uA]; done) | (refine PH_ext (fun _ _ _ => ?_) (fun _ _ _ => ?_) (fun _ _ _ => ?_) <;> simp only [gF_sF, gF_sA, gF_uA, gF_sD, gA_sF, gA_sA, gA_uA, gA_sD, gD_sF, gD_sA, gD_uA, gD_sD] <;> (repeat' split) <;> first | rfl | (exfalso; omega) | simp_all)) ?_
                exact ih5 (a1) (1) ((fun e0 => wk (sgn b n p) (s e0) (s1 e0))) (by first | assumption | omega) (by show _ = wk (sgn b n p) (s e) (s1 e); rw [wk_124 (by omega)]; first | rw [b2i_t (by omega)] | rw [b2i_f (by omega)]) (fun res hres => hK res (EvX_more (by omega) (by decide) q1 hres)) (by omega)
    exact L5 _ (a1) (s1 e) (s1) (by first | assumption | omega) (rfl) (fun res hres => EvX_lev (by decide) q1 hres) (Nat.lt_succ_self _)
set_option maxRecDepth 10000 in
theorem sp_X12_both_s {l : Launch} {w : Wo} (nR : Nat) (ih0 : ∀ {d : Nat} {G : PH} {P : Option PV → PH → Prop} {o n a bs : Int} {b e : Int → Int}, (10 * (8 - o) + 6 < (nR : Int)) → (∀ j, 0 ≤ j → j < n → b j = if bs < 0 then gA G 228 0 j else gA G 229 0 (bs + j)) → ((gF G 12 0 44) = bs) → (bs ≤ 3040) → ((gF G 12 0 46) = n) → (0 ≤ n ∧ n ≤ 160) → ((gF G 12 0 45) = a) → (0 ≤ a ∧ a ≤ n) → ((gF G 12 0 47) < 0) → (0 ≤ o ∧ o ≤ 8) → ((gF G 12 0 48) = o) → (∀ j, 0 ≤ j → j < 9 → (gA G 235 0 (j)) = e j) → (∀ f v x, EvX b n 2 o a none (.inl f) → a ≤ f → f ≤ n → o ≤ x → x ≤ 8 → P (some (vI v)) (sF (sF (sF G 12 0 45 f) 12 0 48 x) 12 0 47 f)) → (∀ a1 s1, EvX b n 2 o a none (.inr (a1, s1)) → a ≤ a1 → a1 ≤ n → P (some (vI (s1 e))) (sF (sF G 12 0 45 a1) 12 0 48 o)) → PW l w M_X12_compared (d + nR + 2) 0 [some (vR 12 (0)), none, none, none] [] G P) : ∀ {d : Nat} {G : PH} {P : Option PV → PH → Prop} {o n a bs : Int} {b e : Int → Int}, (10 * (8 - o) + 7 < ((nR + 1) : Int)) → (∀ j, 0 ≤ j → j < n → b j = if bs < 0 then gA G 228 0 j else gA G 229 0 (bs + j)) → ((gF G 12 0 44) = bs) → (bs ≤ 3040) → ((gF G 12 0 46) = n) → (0 ≤ n ∧ n ≤ 160) → ((gF G 12 0 45) = a) → (0 ≤ a ∧ a ≤ n) → ((gF G 12 0 47) < 0) → (0 ≤ o ∧ o ≤ 8) → ((gF G 12 0 48) = o) → (∀ j, 0 ≤ j → j < 9 → (gA G 235 0 (j)) = e j) → (∀ f v x, EvX b n 1 o a none (.inl f) → a ≤ f → f ≤ n → o ≤ x → x ≤ 8 → P (some (vI v)) (sF (sF (sF G 12 0 45 f) 12 0 48 x) 12 0 47 f)) → (∀ a1 s1, EvX b n 1 o a none (.inr (a1, s1)) → a ≤ a1 → a1 ≤ n → P (some (vI (s1 e))) (sF (sF G 12 0 45 a1) 12 0 48 o)) → PW l w M_X12_both (d + (nR + 1) + 2) 0 [some (vR 12 (0)), none, none] [] G P := by
  intro d G P o n a bs b e hM hb hbs hba hn hnn ha haa hf ho hop hve h1 h2
  rw [show d + (nR + 1) + 2 = d + nR + 3 by omega]
  refine pw_aload r_12_both_0 rfl ?_
  refine pw_callV (av := []) (st := []) (ls0 := [some (vR 12 (0)), none, none, none]) r_12_both_1 rfl rfl rfl (Nat.le_refl _) ?_
  refine ih0 (d := d) (o := o) (n := n) (a := a) (bs := bs) (b := b) (e := e) (by omega) (by exact hb) (by first | exact hbs | (simp (disch := decide) only [gF_sF]; first | done | exact hbs | omega | (simp; first | done | omega))) (by first | assumption | exact hba | omega) (by first | exact hn | (simp (disch := decide) only [gF_sF]; first | done | exact hn | omega | (simp; first | done | omega))) (by first | assumption | exact hnn | omega) (by first | exact ha | rfl | (simp (disch := decide) only [gF_sF]; first | done | omega | (simp; first | done | omega))) (by first | assumption | exact haa | omega) (by first | exact hf | (simp (disch := decide) only [gF_sF]; first | done | exact hf | omega | (simp; first | done | omega))) (by first | assumption | exact ho | omega) (by first | exact hop | (simp (disch := decide) only [gF_sF]; first | done | exact hop | omega | (simp; first | done | omega))) (by exact hve) ?_ ?_
  · skip
    intro f1 v1 x1 q1 q2 q3 q4 q5
    have hF : EvX b n 1 o a none (.inl f1) := EvX_levF (by decide) q1
    refine pw_istore (ls' := [some (vR 12 (0)), some (vI (v1)), none]) r_12_both_4 rfl rfl ?_
    refine pw_aload r_12_both_5 rfl ?_
    refine pw_const r_12_both_6 ?_
    refine pw_callV (av := [vI (38)]) (st := []) (ls0 := [some (vR 12 (0)), some (vI (38))]) r_12_both_8 rfl rfl rfl (Nat.le_refl _) ?_
    refine tkF (by first | (show 0 ≤ f1; omega) | (simp (disch := decide) only [gF_sF]; first | done | omega | (simp; first | done | omega))) ?_
    refine pw_if_eq r_12_both_11 (fun h11 => ?_) (fun h11 => absurd h11 (by decide))
    refine pw_iload r_12_both_36 rfl ?_
    refine pw_iret r_12_both_37 rfl (Nat.le_refl _) ⟨rfl, ?_⟩
    exact h1 f1 _ x1 hF (by omega) (by omega) q4 q5
  · skip
    intro a1 s1 q1 q2 q3
    refine pw_istore (ls' := [some (vR 12 (0)), some (vI (s1 e)), none]) r_12_both_4 rfl rfl ?_
    have L5 : ∀ (nF : Nat) (p v : Int) (s : Sem), (hp : a ≤ p ∧ p ≤ n) → (hv : v = s e) → (hK : ∀ res, EvX b n 1 o p (some s) res → EvX b n 1 o a none res) → (n - p).toNat < nF → PW l w M_X12_both (d + nR + 3) 5 [some (vR 12 (0)), some (vI (v)), none] [] (sF (sF G 12 (0) 45 (p)) 12 (0) 48 (o)) P := by
      intro nF
      induction nF with
      | zero => intro _ _ _ _ _ _ hM; exact absurd hM (Nat.not_lt_zero _)
      | succ nF ih5 =>
        intro p v s hp hv hK hM5
        have hbp := byt_sgn b n p
        have hrk := rk_iff (sgn b n p)
        refine pw_aload r_12_both_5 rfl ?_
        refine pw_const r_12_both_6 ?_
        refine pw_callV (av := [vI (38)]) (st := []) (ls0 := [some (vR 12 (0)), some (vI (38))]) r_12_both_8 rfl rfl rfl (Nat.le_refl _) ?_
        refine tkO (n := n) (a := p) (bs := bs) (b := b) (by exact hb) (by first | exact hbs | (simp (disch := decide) only [gF_sF]; first | done | exact hbs | omega | (simp; first | done | omega))) (by first | assumption | exact hba | omega) (by first | exact hn | (simp (disch := decide) only [gF_sF]; first | done | exact hn | omega | (simp; first | done | omega))) (by first | assumption | exact hnn | omega) (by first | exact ha | rfl | (simp (disch := decide) only [gF_sF]; first | done | omega | (simp; first | done | omega))) (by first | assumption | exact haa | omega) (by first | exact hf | (simp (disch := decide) only [gF_sF]; first | done | exact hf | omega | (simp; first | done | omega))) ?_ ?_
        · skip
          intro q9
          refine pw_if_eq r_12_both_11 (fun h11 => ?_) (fun h11 => absurd h11 (by decide))
          refine pw_iload r_12_both_36 rfl ?_
          refine pw_iret r_12_both_37 rfl (Nat.le_refl _) ⟨rfl, ?_⟩
          exact pe (h2 p s (hK _ (EvX_end (by omega))) (by omega) (by omega)) hv
        · skip
          intro q9
          refine pw_if_eq r_12_both_11 (fun h11 => absurd h11 (by decide)) (fun h11 => ?_)
          refine pw_aload r_12_both_14 rfl ?_
          refine pw_callV (av := []) (st := []) (ls0 := [some (vR 12 (0)), none, none, none]) r_12_both_15 rfl rfl rfl (Nat.le_refl _) ?_
          refine ih0 (d := d) (o := o) (n := n) (a := (p + 1)) (bs := bs) (b := b) (e := e) (by omega) (by exact hb) (by first | exact hbs | (simp (disch := decide) only [gF_sF]; first | done | exact hbs | omega | (simp; first | done | omega))) (by first | assumption | exact hba | omega) (by first | exact hn | (simp (disch := decide) only [gF_sF]; first | done | exact hn | omega | (simp; first | done | omega))) (by first | assumption | exact hnn | omega) (by first | exact ha | rfl | (simp (disch := decide) only [gF_sF]; first | done | omega | (simp; first | done | omega))) (by first | assumption | exact haa | omega) (by first | exact hf | (simp (disch := decide) only [gF_sF]; first | done | exact hf | omega | (simp; first | done | omega))) (by first | assumption | exact ho | omega) (by first | exact hop | (simp (disch := decide) only [gF_sF]; first | done | exact hop | omega | (simp; first | done | omega))) (by exact hve) ?_ ?_
          · skip
            intro f1 v1 x1 q1 q2 q3 q4 q5
            have hF : EvX b n 1 o a none (.inl f1) := hK _ (EvX_moreF (by omega) q1)
            refine pw_istore (ls' := [some (vR 12 (0)), some (vI (v)), some (vI (v1))]) r_12_both_18 rfl rfl ?_
            refine pw_iload r_12_both_19 rfl ?_
            refine pw_if_eq r_12_both_20 (fun h20 => ?_) (fun h20 => ?_)
            · skip
              refine pw_const r_12_both_31 ?_
              refine pw_istore (ls' := [some (vR 12 (0)), some (vI (0)), some (vI (v1))]) r_12_both_32 rfl rfl ?_
              refine pw_goto r_12_both_33 ?_
              refine pw_aload r_12_both_5 rfl ?_
              refine pw_const r_12_both_6 ?_
              refine pw_callV (av := [vI (38)]) (st := []) (ls0 := [some (vR 12 (0)), some (vI (38))]) r_12_both_8 rfl rfl rfl (Nat.le_refl _) ?_
              refine tkF (by first | (show 0 ≤ f1; omega) | (simp (disch := decide) only [gF_sF]; first | done | omega | (simp; first | done | omega))) ?_
              refine pw_if_eq r_12_both_11 (fun h11 => ?_) (fun h11 => absurd h11 (by decide))
              refine pw_iload r_12_both_36 rfl ?_
              refine pw_eqG (G' := sF (sF (sF G 12 (0) 45 (f1)) 12 (0) 48 (x1)) 12 (0) 47 (f1)) (by first | rfl | (rw [uA_self]; done) | (rw [sA_uA]; done) | (rw [sA_eq]; done) | (simp (disch := decide) only [sA_uA, sA_uA_ne, uA_abs, uA_abs2, uA_uA]; done) | (simp (disch := decide) only [sA_eq, sA_uA, sA_uA_ne, uA_abs, uA_abs2, uA_uA]; done) | (refine PH_ext (fun _ _ _ => ?_) (fun _ _ _ => ?_) (fun _ _ _ => ?_) <;> simp only [gF_sF, gF_sA, gF_uA, gF_sD, gA_sF, gA_sA, gA_uA, gA_sD, gD_sF, gD_sA, gD_uA, gD_sD] <;> (repeat' split) <;> first | rfl | (exfalso; omega) | simp_all)) ?_
              refine pw_iret r_12_both_37 rfl (Nat.le_refl _) ⟨rfl, ?_⟩
              exact h1 f1 _ x1 hF (by omega) (by omega) q4 q5
            · skip
              refine pw_iload r_12_both_23 rfl ?_
              refine pw_if_eq r_12_both_24 (fun h24 => ?_) (fun h24 => ?_)
              · skip
                refine pw_const r_12_both_31 ?_
                refine pw_istore (ls' := [some (vR 12 (0)), some (vI (0)), some (vI (v1))]) r_12_both_32 rfl rfl ?_
                refine pw_goto r_12_both_33 ?_
                refine pw_aload r_12_both_5 rfl ?_
                refine pw_const r_12_both_6 ?_
                refine pw_callV (av := [vI (38)]) (st := []) (ls0 := [some (vR 12 (0)), some (vI (38))]) r_12_both_8 rfl rfl rfl (Nat.le_refl _) ?_
                refine tkF (by first | (show 0 ≤ f1; omega) | (simp (disch := decide) only [gF_sF]; first | done | omega | (simp; first | done | omega))) ?_
                refine pw_if_eq r_12_both_11 (fun h11 => ?_) (fun h11 => absurd h11 (by decide))
                refine pw_iload r_12_both_36 rfl ?_
                refine pw_eqG (G' := sF (sF (sF G 12 (0) 45 (f1)) 12 (0) 48 (x1)) 12 (0) 47 (f1)) (by first | rfl | (rw [uA_self]; done) | (rw [sA_uA]; done) | (rw [sA_eq]; done) | (simp (disch := decide) only [sA_uA, sA_uA_ne, uA_abs, uA_abs2, uA_uA]; done) | (simp (disch := decide) only [sA_eq, sA_uA, sA_uA_ne, uA_abs, uA_abs2, uA_uA]; done) | (refine PH_ext (fun _ _ _ => ?_) (fun _ _ _ => ?_) (fun _ _ _ => ?_) <;> simp only [gF_sF, gF_sA, gF_uA, gF_sD, gA_sF, gA_sA, gA_uA, gA_sD, gD_sF, gD_sA, gD_uA, gD_sD] <;> (repeat' split) <;> first | rfl | (exfalso; omega) | simp_all)) ?_
                refine pw_iret r_12_both_37 rfl (Nat.le_refl _) ⟨rfl, ?_⟩
                exact h1 f1 _ x1 hF (by omega) (by omega) q4 q5
              · skip
                refine pw_const r_12_both_27 ?_
                refine pw_goto r_12_both_28 ?_
                refine pw_istore (ls' := [some (vR 12 (0)), some (vI (1)), some (vI (v1))]) r_12_both_32 rfl rfl ?_
                refine pw_goto r_12_both_33 ?_
                refine pw_aload r_12_both_5 rfl ?_
                refine pw_const r_12_both_6 ?_
                refine pw_callV (av := [vI (38)]) (st := []) (ls0 := [some (vR 12 (0)), some (vI (38))]) r_12_both_8 rfl rfl rfl (Nat.le_refl _) ?_
                refine tkF (by first | (show 0 ≤ f1; omega) | (simp (disch := decide) only [gF_sF]; first | done | omega | (simp; first | done | omega))) ?_
                refine pw_if_eq r_12_both_11 (fun h11 => ?_) (fun h11 => absurd h11 (by decide))
                refine pw_iload r_12_both_36 rfl ?_
                refine pw_eqG (G' := sF (sF (sF G 12 (0) 45 (f1)) 12 (0) 48 (x1)) 12 (0) 47 (f1)) (by first | rfl | (rw [uA_self]; done) | (rw [sA_uA]; done) | (rw [sA_eq]; done) | (simp (disch := decide) only [sA_uA, sA_uA_ne, uA_abs, uA_abs2, uA_uA]; done) | (simp (disch := decide) only [sA_eq, sA_uA, sA_uA_ne, uA_abs, uA_abs2, uA_uA]; done) | (refine PH_ext (fun _ _ _ => ?_) (fun _ _ _ => ?_) (fun _ _ _ => ?_) <;> simp only [gF_sF, gF_sA, gF_uA, gF_sD, gA_sF, gA_sA, gA_uA, gA_sD, gD_sF, gD_sA, gD_uA, gD_sD] <;> (repeat' split) <;> first | rfl | (exfalso; omega) | simp_all)) ?_
                refine pw_iret r_12_both_37 rfl (Nat.le_refl _) ⟨rfl, ?_⟩
                exact h1 f1 _ x1 hF (by omega) (by omega) q4 q5
          · skip
            intro a1 s1 q1 q2 q3
            refine pw_istore (ls' := [some (vR 12 (0)), some (vI (v)), some (vI (s1 e))]) r_12_both_18 rfl rfl ?_
            refine pw_iload r_12_both_19 rfl ?_
            refine pw_if_eq r_12_both_20 (fun h20 => ?_) (fun h20 => ?_)
            · skip
              refine pw_const r_12_both_31 ?_
              refine pw_istore (ls' := [some (vR 12 (0)), some (vI (0)), some (vI (s1 e))]) r_12_both_32 rfl rfl ?_
              refine pw_goto r_12_both_33 ?_
              refine pw_weakL (ls' := [some (vR 12 (0)), some (vI (0)), none]) (⟨rfl, ⟨rfl, trivial⟩⟩) ?_
              refine pw_eqG (G' := sF (sF G 12 (0) 45 (a1)) 12 (0) 48 (o)) (by first | rfl | (rw [uA_self]; done) | (rw [sA_uA]; done) | (rw [sA_eq]; done) | (simp (disch := decide) only [sA_uA, sA_uA_ne, uA_abs, uA_abs2, uA_uA]; done) | (simp (disch := decide) only [sA_eq, sA_uA, sA_uA_ne, uA_abs, uA_abs2, uA_uA]; done) | (refine PH_ext (fun _ _ _ => ?_) (fun _ _ _ => ?_) (fun _ _ _ => ?_) <;> simp only [gF_sF, gF_sA, gF_uA, gF_sD, gA_sF, gA_sA, gA_uA, gA_sD, gD_sF, gD_sA, gD_uA, gD_sD] <;> (repeat' split) <;> first | rfl | (exfalso; omega) | simp_all)) ?_
              exact ih5 (a1) (0) ((fun e0 => wk (sgn b n p) (s e0) (s1 e0))) (by first | assumption | omega) (by show _ = wk (sgn b n p) (s e) (s1 e); rw [wk_38 (by omega)]; first | rw [b2i_t (by omega)] | rw [b2i_f (by omega)]) (fun res hres => hK res (EvX_more (by omega) (by decide) q1 hres)) (by omega)
            · skip
              refine pw_iload r_12_both_23 rfl ?_
              refine pw_if_eq r_12_both_24 (fun h24 => ?_) (fun h24 => ?_)
              · skip
                refine pw_const r_12_both_31 ?_
                refine pw_istore (ls' := [some (vR 12 (0)), some (vI (0)), some (vI (s1 e))]) r_12_both_32 rfl rfl ?_
                refine pw_goto r_12_both_33 ?_
                refine pw_weakL (ls' := [some (vR 12 (0)), some (vI (0)), none]) (⟨rfl, ⟨rfl, trivial⟩⟩) ?_
                refine pw_eqG (G' := sF (sF G 12 (0) 45 (a1)) 12 (0) 48 (o)) (by first | rfl | (rw [uA_self]; done) | (rw [sA_uA]; done) | (rw [sA_eq]; done) | (simp (disch := decide) only [sA_uA, sA_uA_ne, uA_abs, uA_abs2, uA_uA]; done) | (simp (disch := decide) only [sA_eq, sA_uA, sA_uA_ne, uA_abs, uA_abs2, uA_uA]; done) | (refine PH_ext (fun _ _ _ => ?_) (fun _ _ _ => ?_) (fun _ _ _ => ?_) <;> simp only [gF_sF, gF_sA, gF_uA, gF_sD, gA_sF, gA_sA, gA_uA, gA_sD, gD_sF, gD_sA, gD_uA, gD_sD] <;> (repeat' split) <;> first | rfl | (exfalso; omega) | simp_all)) ?_
                exact ih5 (a1) (0) ((fun e0 => wk (sgn b n p) (s e0) (s1 e0))) (by first | assumption | omega) (by show _ = wk (sgn b n p) (s e) (s1 e); rw [wk_38 (by omega)]; first | rw [b2i_t (by omega)] | rw [b2i_f (by omega)]) (fun res hres => hK res (EvX_more (by omega) (by decide) q1 hres)) (by omega)
              · skip
                refine pw_const r_12_both_27 ?_
                refine pw_goto r_12_both_28 ?_
                refine pw_istore (ls' := [some (vR 12 (0)), some (vI (1)), some (vI (s1 e))]) r_12_both_32 rfl rfl ?_
                refine pw_goto r_12_both_33 ?_
                refine pw_weakL (ls' := [some (vR 12 (0)), some (vI (1)), none]) (⟨rfl, ⟨rfl, trivial⟩⟩) ?_
                refine pw_eqG (G' := sF (sF G 12 (0) 45 (a1)) 12 (0) 48 (o)) (by first | rfl | (rw [uA_self]; done) | (rw [sA_uA]; done) | (rw [sA_eq]; done) | (simp (disch := decide) only [sA_uA, sA_uA_ne, uA_abs, uA_abs2, uA_uA]; done) | (simp (disch := decide) only [sA_eq, sA_uA, sA_uA_ne, uA_abs, uA_abs2, uA_uA]; done) | (refine PH_ext (fun _ _ _ => ?_) (fun _ _ _ => ?_) (fun _ _ _ => ?_) <;> simp only [gF_sF, gF_sA, gF_uA, gF_sD, gA_sF, gA_sA, gA_uA, gA_sD, gD_sF, gD_sA, gD_uA, gD_sD] <;> (repeat' split) <;> first | rfl | (exfalso; omega) | simp_all)) ?_
                exact ih5 (a1) (1) ((fun e0 => wk (sgn b n p) (s e0) (s1 e0))) (by first | assumption | omega) (by show _ = wk (sgn b n p) (s e) (s1 e); rw [wk_38 (by omega)]; first | rw [b2i_t (by omega)] | rw [b2i_f (by omega)]) (fun res hres => hK res (EvX_more (by omega) (by decide) q1 hres)) (by omega)
    exact L5 _ (a1) (s1 e) (s1) (by first | assumption | omega) (rfl) (fun res hres => EvX_lev (by decide) q1 hres) (Nat.lt_succ_self _)
set_option maxRecDepth 10000 in
theorem sp_X12_compared_s {l : Launch} {w : Wo} (nR : Nat) (ih0 : ∀ {d : Nat} {G : PH} {P : Option PV → PH → Prop} {o n a bs : Int} {b e : Int → Int}, (10 * (8 - o) + 5 < (nR : Int)) → (∀ j, 0 ≤ j → j < n → b j = if bs < 0 then gA G 228 0 j else gA G 229 0 (bs + j)) → ((gF G 12 0 44) = bs) → (bs ≤ 3040) → ((gF G 12 0 46) = n) → (0 ≤ n ∧ n ≤ 160) → ((gF G 12 0 45) = a) → (0 ≤ a ∧ a ≤ n) → ((gF G 12 0 47) < 0) → (0 ≤ o ∧ o ≤ 8) → ((gF G 12 0 48) = o) → (∀ j, 0 ≤ j → j < 9 → (gA G 235 0 (j)) = e j) → (∀ f v x, EvX b n 3 o a none (.inl f) → a ≤ f → f ≤ n → o ≤ x → x ≤ 8 → P (some (vI v)) (sF (sF (sF G 12 0 45 f) 12 0 48 x) 12 0 47 f)) → (∀ a1 s1, EvX b n 3 o a none (.inr (a1, s1)) → a ≤ a1 → a1 ≤ n → P (some (vI (s1 e))) (sF (sF G 12 0 45 a1) 12 0 48 o)) → PW l w M_X12_sums (d + nR + 2) 0 [some (vR 12 (0)), none, none, none] [] G P) : ∀ {d : Nat} {G : PH} {P : Option PV → PH → Prop} {o n a bs : Int} {b e : Int → Int}, (10 * (8 - o) + 6 < ((nR + 1) : Int)) → (∀ j, 0 ≤ j → j < n → b j = if bs < 0 then gA G 228 0 j else gA G 229 0 (bs + j)) → ((gF G 12 0 44) = bs) → (bs ≤ 3040) → ((gF G 12 0 46) = n) → (0 ≤ n ∧ n ≤ 160) → ((gF G 12 0 45) = a) → (0 ≤ a ∧ a ≤ n) → ((gF G 12 0 47) < 0) → (0 ≤ o ∧ o ≤ 8) → ((gF G 12 0 48) = o) → (∀ j, 0 ≤ j → j < 9 → (gA G 235 0 (j)) = e j) → (∀ f v x, EvX b n 2 o a none (.inl f) → a ≤ f → f ≤ n → o ≤ x → x ≤ 8 → P (some (vI v)) (sF (sF (sF G 12 0 45 f) 12 0 48 x) 12 0 47 f)) → (∀ a1 s1, EvX b n 2 o a none (.inr (a1, s1)) → a ≤ a1 → a1 ≤ n → P (some (vI (s1 e))) (sF (sF G 12 0 45 a1) 12 0 48 o)) → PW l w M_X12_compared (d + (nR + 1) + 2) 0 [some (vR 12 (0)), none, none, none] [] G P := by
  intro d G P o n a bs b e hM hb hbs hba hn hnn ha haa hf ho hop hve h1 h2
  rw [show d + (nR + 1) + 2 = d + nR + 3 by omega]
  refine pw_aload r_12_compared_0 rfl ?_
  refine pw_callV (av := []) (st := []) (ls0 := [some (vR 12 (0)), none, none, none]) r_12_compared_1 rfl rfl rfl (Nat.le_refl _) ?_
  refine ih0 (d := d) (o := o) (n := n) (a := a) (bs := bs) (b := b) (e := e) (by omega) (by exact hb) (by first | exact hbs | (simp (disch := decide) only [gF_sF]; first | done | exact hbs | omega | (simp; first | done | omega))) (by first | assumption | exact hba | omega) (by first | exact hn | (simp (disch := decide) only [gF_sF]; first | done | exact hn | omega | (simp; first | done | omega))) (by first | assumption | exact hnn | omega) (by first | exact ha | rfl | (simp (disch := decide) only [gF_sF]; first | done | omega | (simp; first | done | omega))) (by first | assumption | exact haa | omega) (by first | exact hf | (simp (disch := decide) only [gF_sF]; first | done | exact hf | omega | (simp; first | done | omega))) (by first | assumption | exact ho | omega) (by first | exact hop | (simp (disch := decide) only [gF_sF]; first | done | exact hop | omega | (simp; first | done | omega))) (by exact hve) ?_ ?_
  · skip
    intro f1 v1 x1 q1 q2 q3 q4 q5
    refine pw_istore (ls' := [some (vR 12 (0)), some (vI (v1)), none, none]) r_12_compared_4 rfl rfl ?_
    refine pw_aload r_12_compared_5 rfl ?_
    refine pw_callV (av := []) (st := []) (ls0 := [some (vR 12 (0))]) r_12_compared_6 rfl rfl rfl (Nat.le_refl _) ?_
    refine byO (n := n) (a := f1) (bs := bs) (b := b) (by exact hb) (by first | exact hbs | (simp (disch := decide) only [gF_sF]; first | done | exact hbs | omega | (simp; first | done | omega))) (by first | assumption | exact hba | omega) (by first | exact hn | (simp (disch := decide) only [gF_sF]; first | done | exact hn | omega | (simp; first | done | omega))) (by first | assumption | exact hnn | omega) (by first | exact ha | rfl | (simp (disch := decide) only [gF_sF]; first | done | omega | (simp; first | done | omega))) (by first | assumption | exact haa | omega) ?_
    refine pw_istore (ls' := [some (vR 12 (0)), some (vI (v1)), some (vI (byt b n f1)), none]) r_12_compared_9 rfl rfl ?_
    refine pw_aload r_12_compared_10 rfl ?_
    refine pw_getIv (v := f1) r_12_compared_11 fs_12_47 (by decide) (by first | rfl | simp [gF_sF, gF_sA, gF_uA, gF_sD, gA_sF, gA_sA, gA_uA, gA_sD, gD_sF, gD_sA, gD_uA, gD_sD]) ?_
    refine pw_if_ge r_12_compared_14 (fun h14 => ?_) (fun h14 => absurd h14 (by omega))
    refine pw_iload r_12_compared_35 rfl ?_
    refine pw_iret r_12_compared_36 rfl (Nat.le_refl _) ⟨rfl, ?_⟩
    exact h1 f1 _ x1 (EvX_levF (by decide) q1) (by omega) (by omega) q4 q5
  · skip
    intro a1 s1 q1 q2 q3
    have hbp := byt_sgn b n a1
    have hrk := rk_iff (sgn b n a1)
    refine pw_istore (ls' := [some (vR 12 (0)), some (vI (s1 e)), none, none]) r_12_compared_4 rfl rfl ?_
    refine pw_aload r_12_compared_5 rfl ?_
    refine pw_callV (av := []) (st := []) (ls0 := [some (vR 12 (0))]) r_12_compared_6 rfl rfl rfl (Nat.le_refl _) ?_
    refine byO (n := n) (a := a1) (bs := bs) (b := b) (by exact hb) (by first | exact hbs | (simp (disch := decide) only [gF_sF]; first | done | exact hbs | omega | (simp; first | done | omega))) (by first | assumption | exact hba | omega) (by first | exact hn | (simp (disch := decide) only [gF_sF]; first | done | exact hn | omega | (simp; first | done | omega))) (by first | assumption | exact hnn | omega) (by first | exact ha | rfl | (simp (disch := decide) only [gF_sF]; first | done | omega | (simp; first | done | omega))) (by first | assumption | exact haa | omega) ?_
    refine pw_istore (ls' := [some (vR 12 (0)), some (vI (s1 e)), some (vI (byt b n a1)), none]) r_12_compared_9 rfl rfl ?_
    refine pw_aload r_12_compared_10 rfl ?_
    refine pw_getIv (v := gF G 12 (0) 47) r_12_compared_11 fs_12_47 (by decide) (by first | rfl | simp [gF_sF, gF_sA, gF_uA, gF_sD, gA_sF, gA_sA, gA_uA, gA_sD, gD_sF, gD_sA, gD_uA, gD_sD]) ?_
    refine pw_if_ge r_12_compared_14 (fun h14 => absurd h14 (by omega)) (fun h14 => ?_)
    refine pw_iload r_12_compared_17 rfl ?_
    refine pw_const r_12_compared_18 ?_
    refine pw_icmp_eq r_12_compared_20 (fun h20 => ?_) (fun h20 => ?_)
    · skip
      refine pw_aload r_12_compared_37 rfl ?_
      refine pw_dup r_12_compared_38 rfl ?_
      refine pw_getIv (v := a1) r_12_compared_39 fs_12_45 (by decide) (by first | rfl | simp [gF_sF, gF_sA, gF_uA, gF_sD, gA_sF, gA_sA, gA_uA, gA_sD, gD_sF, gD_sA, gD_uA, gD_sD]) ?_
      refine pw_const r_12_compared_42 ?_
      refine pw_iadd r_12_compared_43 (by omega) ?_
      refine pw_putI r_12_compared_44 (by decide +kernel) fs_12_45 (by decide) ?_
      refine pw_aload r_12_compared_47 rfl ?_
      refine pw_callV (av := []) (st := []) (ls0 := [some (vR 12 (0)), none, none, none]) r_12_compared_48 rfl rfl rfl (Nat.le_refl _) ?_
      refine ih0 (d := d) (o := o) (n := n) (a := (a1 + 1)) (bs := bs) (b := b) (e := e) (by omega) (by exact hb) (by first | exact hbs | (simp (disch := decide) only [gF_sF]; first | done | exact hbs | omega | (simp; first | done | omega))) (by first | assumption | exact hba | omega) (by first | exact hn | (simp (disch := decide) only [gF_sF]; first | done | exact hn | omega | (simp; first | done | omega))) (by first | assumption | exact hnn | omega) (by first | exact ha | rfl | (simp (disch := decide) only [gF_sF]; first | done | omega | (simp; first | done | omega))) (by first | assumption | exact haa | omega) (by first | exact hf | (simp (disch := decide) only [gF_sF]; first | done | exact hf | omega | (simp; first | done | omega))) (by first | assumption | exact ho | omega) (by first | exact hop | (simp (disch := decide) only [gF_sF]; first | done | exact hop | omega | (simp; first | done | omega))) (by exact hve) ?_ ?_
      · skip
        intro f2 v2 x2 p1 p2 p3 p4 p5
        refine pw_istore (ls' := [some (vR 12 (0)), some (vI (s1 e)), some (vI (byt b n a1)), some (vI (v2))]) r_12_compared_51 rfl rfl ?_
        refine pw_iload r_12_compared_52 rfl ?_
        refine pw_const r_12_compared_53 ?_
        refine pw_icmp_ne r_12_compared_55 (fun h55 => ?_) (fun h55 => ?_)
        · skip
          refine pw_iload r_12_compared_66 rfl ?_
          refine pw_const r_12_compared_67 ?_
          refine pw_icmp_ne r_12_compared_69 (fun h69 => ?_) (fun h69 => ?_)
          · skip
            refine pw_iload r_12_compared_80 rfl ?_
            refine pw_iload r_12_compared_81 rfl ?_
            refine pw_icmp_le r_12_compared_82 (fun h82 => ?_) (fun h82 => ?_)
            · skip
              refine pw_const r_12_compared_89 ?_
              refine pw_eqG (G' := sF (sF (sF G 12 (0) 45 (f2)) 12 (0) 48 (x2)) 12 (0) 47 (f2)) (by first | rfl | (rw [uA_self]; done) | (rw [sA_uA]; done) | (rw [sA_eq]; done) | (simp (disch := decide) only [sA_uA, sA_uA_ne, uA_abs, uA_abs2, uA_uA]; done) | (simp (disch := decide) only [sA_eq, sA_uA, sA_uA_ne, uA_abs, uA_abs2, uA_uA]; done) | (refine PH_ext (fun _ _ _ => ?_) (fun _ _ _ => ?_) (fun _ _ _ => ?_) <;> simp only [gF_sF, gF_sA, gF_uA, gF_sD, gA_sF, gA_sA, gA_uA, gA_sD, gD_sF, gD_sA, gD_uA, gD_sD] <;> (repeat' split) <;> first | rfl | (exfalso; omega) | simp_all)) ?_
              refine pw_iret r_12_compared_90 rfl (Nat.le_refl _) ⟨rfl, ?_⟩
              exact h1 f2 _ x2 (EvX_lev (by decide) q1 (EvX_moreF (by omega) p1)) (by omega) (by omega) p4 p5
            · skip
              refine pw_const r_12_compared_85 ?_
              refine pw_goto r_12_compared_86 ?_
              refine pw_eqG (G' := sF (sF (sF G 12 (0) 45 (f2)) 12 (0) 48 (x2)) 12 (0) 47 (f2)) (by first | rfl | (rw [uA_self]; done) | (rw [sA_uA]; done) | (rw [sA_eq]; done) | (simp (disch := decide) only [sA_uA, sA_uA_ne, uA_abs, uA_abs2, uA_uA]; done) | (simp (disch := decide) only [sA_eq, sA_uA, sA_uA_ne, uA_abs, uA_abs2, uA_uA]; done) | (refine PH_ext (fun _ _ _ => ?_) (fun _ _ _ => ?_) (fun _ _ _ => ?_) <;> simp only [gF_sF, gF_sA, gF_uA, gF_sD, gA_sF, gA_sA, gA_uA, gA_sD, gD_sF, gD_sA, gD_uA, gD_sD] <;> (repeat' split) <;> first | rfl | (exfalso; omega) | simp_all)) ?_
              refine pw_iret r_12_compared_90 rfl (Nat.le_refl _) ⟨rfl, ?_⟩
              exact h1 f2 _ x2 (EvX_lev (by decide) q1 (EvX_moreF (by omega) p1)) (by omega) (by omega) p4 p5
          · skip
            refine pw_iload r_12_compared_72 rfl ?_
            refine pw_iload r_12_compared_73 rfl ?_
            refine pw_icmp_ne r_12_compared_74 (fun h74 => ?_) (fun h74 => ?_)
            · skip
              refine pw_const r_12_compared_89 ?_
              refine pw_eqG (G' := sF (sF (sF G 12 (0) 45 (f2)) 12 (0) 48 (x2)) 12 (0) 47 (f2)) (by first | rfl | (rw [uA_self]; done) | (rw [sA_uA]; done) | (rw [sA_eq]; done) | (simp (disch := decide) only [sA_uA, sA_uA_ne, uA_abs, uA_abs2, uA_uA]; done) | (simp (disch := decide) only [sA_eq, sA_uA, sA_uA_ne, uA_abs, uA_abs2, uA_uA]; done) | (refine PH_ext (fun _ _ _ => ?_) (fun _ _ _ => ?_) (fun _ _ _ => ?_) <;> simp only [gF_sF, gF_sA, gF_uA, gF_sD, gA_sF, gA_sA, gA_uA, gA_sD, gD_sF, gD_sA, gD_uA, gD_sD] <;> (repeat' split) <;> first | rfl | (exfalso; omega) | simp_all)) ?_
              refine pw_iret r_12_compared_90 rfl (Nat.le_refl _) ⟨rfl, ?_⟩
              exact h1 f2 _ x2 (EvX_lev (by decide) q1 (EvX_moreF (by omega) p1)) (by omega) (by omega) p4 p5
            · skip
              refine pw_goto r_12_compared_77 ?_
              refine pw_const r_12_compared_85 ?_
              refine pw_goto r_12_compared_86 ?_
              refine pw_eqG (G' := sF (sF (sF G 12 (0) 45 (f2)) 12 (0) 48 (x2)) 12 (0) 47 (f2)) (by first | rfl | (rw [uA_self]; done) | (rw [sA_uA]; done) | (rw [sA_eq]; done) | (simp (disch := decide) only [sA_uA, sA_uA_ne, uA_abs, uA_abs2, uA_uA]; done) | (simp (disch := decide) only [sA_eq, sA_uA, sA_uA_ne, uA_abs, uA_abs2, uA_uA]; done) | (refine PH_ext (fun _ _ _ => ?_) (fun _ _ _ => ?_) (fun _ _ _ => ?_) <;> simp only [gF_sF, gF_sA, gF_uA, gF_sD, gA_sF, gA_sA, gA_uA, gA_sD, gD_sF, gD_sA, gD_uA, gD_sD] <;> (repeat' split) <;> first | rfl | (exfalso; omega) | simp_all)) ?_
              refine pw_iret r_12_compared_90 rfl (Nat.le_refl _) ⟨rfl, ?_⟩
              exact h1 f2 _ x2 (EvX_lev (by decide) q1 (EvX_moreF (by omega) p1)) (by omega) (by omega) p4 p5
        · skip
          refine pw_iload r_12_compared_58 rfl ?_
          refine pw_iload r_12_compared_59 rfl ?_
          refine pw_icmp_ge r_12_compared_60 (fun h60 => ?_) (fun h60 => ?_)
          · skip
            refine pw_const r_12_compared_89 ?_
            refine pw_eqG (G' := sF (sF (sF G 12 (0) 45 (f2)) 12 (0) 48 (x2)) 12 (0) 47 (f2)) (by first | rfl | (rw [uA_self]; done) | (rw [sA_uA]; done) | (rw [sA_eq]; done) | (simp (disch := decide) only [sA_uA, sA_uA_ne, uA_abs, uA_abs2, uA_uA]; done) | (simp (disch := decide) only [sA_eq, sA_uA, sA_uA_ne, uA_abs, uA_abs2, uA_uA]; done) | (refine PH_ext (fun _ _ _ => ?_) (fun _ _ _ => ?_) (fun _ _ _ => ?_) <;> simp only [gF_sF, gF_sA, gF_uA, gF_sD, gA_sF, gA_sA, gA_uA, gA_sD, gD_sF, gD_sA, gD_uA, gD_sD] <;> (repeat' split) <;> first | rfl | (exfalso; omega) | simp_all)) ?_
            refine pw_iret r_12_compared_90 rfl (Nat.le_refl _) ⟨rfl, ?_⟩
            exact h1 f2 _ x2 (EvX_lev (by decide) q1 (EvX_moreF (by omega) p1)) (by omega) (by omega) p4 p5
          · skip
            refine pw_goto r_12_compared_63 ?_
            refine pw_const r_12_compared_85 ?_
            refine pw_goto r_12_compared_86 ?_
            refine pw_eqG (G' := sF (sF (sF G 12 (0) 45 (f2)) 12 (0) 48 (x2)) 12 (0) 47 (f2)) (by first | rfl | (rw [uA_self]; done) | (rw [sA_uA]; done) | (rw [sA_eq]; done) | (simp (disch := decide) only [sA_uA, sA_uA_ne, uA_abs, uA_abs2, uA_uA]; done) | (simp (disch := decide) only [sA_eq, sA_uA, sA_uA_ne, uA_abs, uA_abs2, uA_uA]; done) | (refine PH_ext (fun _ _ _ => ?_) (fun _ _ _ => ?_) (fun _ _ _ => ?_) <;> simp only [gF_sF, gF_sA, gF_uA, gF_sD, gA_sF, gA_sA, gA_uA, gA_sD, gD_sF, gD_sA, gD_uA, gD_sD] <;> (repeat' split) <;> first | rfl | (exfalso; omega) | simp_all)) ?_
            refine pw_iret r_12_compared_90 rfl (Nat.le_refl _) ⟨rfl, ?_⟩
            exact h1 f2 _ x2 (EvX_lev (by decide) q1 (EvX_moreF (by omega) p1)) (by omega) (by omega) p4 p5
      · skip
        intro a2 s2 p1 p2 p3
        refine pw_istore (ls' := [some (vR 12 (0)), some (vI (s1 e)), some (vI (byt b n a1)), some (vI (s2 e))]) r_12_compared_51 rfl rfl ?_
        refine pw_iload r_12_compared_52 rfl ?_
        refine pw_const r_12_compared_53 ?_
        refine pw_icmp_ne r_12_compared_55 (fun h55 => ?_) (fun h55 => ?_)
        · skip
          refine pw_iload r_12_compared_66 rfl ?_
          refine pw_const r_12_compared_67 ?_
          refine pw_icmp_ne r_12_compared_69 (fun h69 => ?_) (fun h69 => ?_)
          · skip
            refine pw_iload r_12_compared_80 rfl ?_
            refine pw_iload r_12_compared_81 rfl ?_
            refine pw_icmp_le r_12_compared_82 (fun h82 => ?_) (fun h82 => ?_)
            · skip
              refine pw_const r_12_compared_89 ?_
              refine pw_eqG (G' := sF (sF G 12 (0) 45 (a2)) 12 (0) 48 (o)) (by first | rfl | (rw [uA_self]; done) | (rw [sA_uA]; done) | (rw [sA_eq]; done) | (simp (disch := decide) only [sA_uA, sA_uA_ne, uA_abs, uA_abs2, uA_uA]; done) | (simp (disch := decide) only [sA_eq, sA_uA, sA_uA_ne, uA_abs, uA_abs2, uA_uA]; done) | (refine PH_ext (fun _ _ _ => ?_) (fun _ _ _ => ?_) (fun _ _ _ => ?_) <;> simp only [gF_sF, gF_sA, gF_uA, gF_sD, gA_sF, gA_sA, gA_uA, gA_sD, gD_sF, gD_sA, gD_uA, gD_sD] <;> (repeat' split) <;> first | rfl | (exfalso; omega) | simp_all)) ?_
              refine pw_iret r_12_compared_90 rfl (Nat.le_refl _) ⟨rfl, ?_⟩
              exact pe (h2 a2 (fun e0 => wk (sgn b n a1) (s1 e0) (s2 e0)) (EvX_lev (by decide) q1 (EvX_cmp (by omega) p1)) (by omega) (by omega)) (by show _ = wk (sgn b n a1) (s1 e) (s2 e); first | (exfalso; omega) | (rw [wk_60 (by omega)]; first | rw [b2i_t (by omega)] | rw [b2i_f (by omega)]; done) | (rw [wk_61 (by omega)]; first | rw [b2i_t (by omega)] | rw [b2i_f (by omega)]; done) | (rw [wk_62 (by omega)]; first | rw [b2i_t (by omega)] | rw [b2i_f (by omega)]; done))
            · skip
              refine pw_const r_12_compared_85 ?_
              refine pw_goto r_12_compared_86 ?_
              refine pw_eqG (G' := sF (sF G 12 (0) 45 (a2)) 12 (0) 48 (o)) (by first | rfl | (rw [uA_self]; done) | (rw [sA_uA]; done) | (rw [sA_eq]; done) | (simp (disch := decide) only [sA_uA, sA_uA_ne, uA_abs, uA_abs2, uA_uA]; done) | (simp (disch := decide) only [sA_eq, sA_uA, sA_uA_ne, uA_abs, uA_abs2, uA_uA]; done) | (refine PH_ext (fun _ _ _ => ?_) (fun _ _ _ => ?_) (fun _ _ _ => ?_) <;> simp only [gF_sF, gF_sA, gF_uA, gF_sD, gA_sF, gA_sA, gA_uA, gA_sD, gD_sF, gD_sA, gD_uA, gD_sD] <;> (repeat' split) <;> first | rfl | (exfalso; omega) | simp_all)) ?_
              refine pw_iret r_12_compared_90 rfl (Nat.le_refl _) ⟨rfl, ?_⟩
              exact pe (h2 a2 (fun e0 => wk (sgn b n a1) (s1 e0) (s2 e0)) (EvX_lev (by decide) q1 (EvX_cmp (by omega) p1)) (by omega) (by omega)) (by show _ = wk (sgn b n a1) (s1 e) (s2 e); first | (exfalso; omega) | (rw [wk_60 (by omega)]; first | rw [b2i_t (by omega)] | rw [b2i_f (by omega)]; done) | (rw [wk_61 (by omega)]; first | rw [b2i_t (by omega)] | rw [b2i_f (by omega)]; done) | (rw [wk_62 (by omega)]; first | rw [b2i_t (by omega)] | rw [b2i_f (by omega)]; done))
          · skip
            refine pw_iload r_12_compared_72 rfl ?_
            refine pw_iload r_12_compared_73 rfl ?_
            refine pw_icmp_ne r_12_compared_74 (fun h74 => ?_) (fun h74 => ?_)
            · skip
              refine pw_const r_12_compared_89 ?_
              refine pw_eqG (G' := sF (sF G 12 (0) 45 (a2)) 12 (0) 48 (o)) (by first | rfl | (rw [uA_self]; done) | (rw [sA_uA]; done) | (rw [sA_eq]; done) | (simp (disch := decide) only [sA_uA, sA_uA_ne, uA_abs, uA_abs2, uA_uA]; done) | (simp (disch := decide) only [sA_eq, sA_uA, sA_uA_ne, uA_abs, uA_abs2, uA_uA]; done) | (refine PH_ext (fun _ _ _ => ?_) (fun _ _ _ => ?_) (fun _ _ _ => ?_) <;> simp only [gF_sF, gF_sA, gF_uA, gF_sD, gA_sF, gA_sA, gA_uA, gA_sD, gD_sF, gD_sA, gD_uA, gD_sD] <;> (repeat' split) <;> first | rfl | (exfalso; omega) | simp_all)) ?_
              refine pw_iret r_12_compared_90 rfl (Nat.le_refl _) ⟨rfl, ?_⟩
              exact pe (h2 a2 (fun e0 => wk (sgn b n a1) (s1 e0) (s2 e0)) (EvX_lev (by decide) q1 (EvX_cmp (by omega) p1)) (by omega) (by omega)) (by show _ = wk (sgn b n a1) (s1 e) (s2 e); first | (exfalso; omega) | (rw [wk_60 (by omega)]; first | rw [b2i_t (by omega)] | rw [b2i_f (by omega)]; done) | (rw [wk_61 (by omega)]; first | rw [b2i_t (by omega)] | rw [b2i_f (by omega)]; done) | (rw [wk_62 (by omega)]; first | rw [b2i_t (by omega)] | rw [b2i_f (by omega)]; done))
            · skip
              refine pw_goto r_12_compared_77 ?_
              refine pw_const r_12_compared_85 ?_
              refine pw_goto r_12_compared_86 ?_
              refine pw_eqG (G' := sF (sF G 12 (0) 45 (a2)) 12 (0) 48 (o)) (by first | rfl | (rw [uA_self]; done) | (rw [sA_uA]; done) | (rw [sA_eq]; done) | (simp (disch := decide) only [sA_uA, sA_uA_ne, uA_abs, uA_abs2, uA_uA]; done) | (simp (disch := decide) only [sA_eq, sA_uA, sA_uA_ne, uA_abs, uA_abs2, uA_uA]; done) | (refine PH_ext (fun _ _ _ => ?_) (fun _ _ _ => ?_) (fun _ _ _ => ?_) <;> simp only [gF_sF, gF_sA, gF_uA, gF_sD, gA_sF, gA_sA, gA_uA, gA_sD, gD_sF, gD_sA, gD_uA, gD_sD] <;> (repeat' split) <;> first | rfl | (exfalso; omega) | simp_all)) ?_
              refine pw_iret r_12_compared_90 rfl (Nat.le_refl _) ⟨rfl, ?_⟩
              exact pe (h2 a2 (fun e0 => wk (sgn b n a1) (s1 e0) (s2 e0)) (EvX_lev (by decide) q1 (EvX_cmp (by omega) p1)) (by omega) (by omega)) (by show _ = wk (sgn b n a1) (s1 e) (s2 e); first | (exfalso; omega) | (rw [wk_60 (by omega)]; first | rw [b2i_t (by omega)] | rw [b2i_f (by omega)]; done) | (rw [wk_61 (by omega)]; first | rw [b2i_t (by omega)] | rw [b2i_f (by omega)]; done) | (rw [wk_62 (by omega)]; first | rw [b2i_t (by omega)] | rw [b2i_f (by omega)]; done))
        · skip
          refine pw_iload r_12_compared_58 rfl ?_
          refine pw_iload r_12_compared_59 rfl ?_
          refine pw_icmp_ge r_12_compared_60 (fun h60 => ?_) (fun h60 => ?_)
          · skip
            refine pw_const r_12_compared_89 ?_
            refine pw_eqG (G' := sF (sF G 12 (0) 45 (a2)) 12 (0) 48 (o)) (by first | rfl | (rw [uA_self]; done) | (rw [sA_uA]; done) | (rw [sA_eq]; done) | (simp (disch := decide) only [sA_uA, sA_uA_ne, uA_abs, uA_abs2, uA_uA]; done) | (simp (disch := decide) only [sA_eq, sA_uA, sA_uA_ne, uA_abs, uA_abs2, uA_uA]; done) | (refine PH_ext (fun _ _ _ => ?_) (fun _ _ _ => ?_) (fun _ _ _ => ?_) <;> simp only [gF_sF, gF_sA, gF_uA, gF_sD, gA_sF, gA_sA, gA_uA, gA_sD, gD_sF, gD_sA, gD_uA, gD_sD] <;> (repeat' split) <;> first | rfl | (exfalso; omega) | simp_all)) ?_
            refine pw_iret r_12_compared_90 rfl (Nat.le_refl _) ⟨rfl, ?_⟩
            exact pe (h2 a2 (fun e0 => wk (sgn b n a1) (s1 e0) (s2 e0)) (EvX_lev (by decide) q1 (EvX_cmp (by omega) p1)) (by omega) (by omega)) (by show _ = wk (sgn b n a1) (s1 e) (s2 e); first | (exfalso; omega) | (rw [wk_60 (by omega)]; first | rw [b2i_t (by omega)] | rw [b2i_f (by omega)]; done) | (rw [wk_61 (by omega)]; first | rw [b2i_t (by omega)] | rw [b2i_f (by omega)]; done) | (rw [wk_62 (by omega)]; first | rw [b2i_t (by omega)] | rw [b2i_f (by omega)]; done))
          · skip
            refine pw_goto r_12_compared_63 ?_
            refine pw_const r_12_compared_85 ?_
            refine pw_goto r_12_compared_86 ?_
            refine pw_eqG (G' := sF (sF G 12 (0) 45 (a2)) 12 (0) 48 (o)) (by first | rfl | (rw [uA_self]; done) | (rw [sA_uA]; done) | (rw [sA_eq]; done) | (simp (disch := decide) only [sA_uA, sA_uA_ne, uA_abs, uA_abs2, uA_uA]; done) | (simp (disch := decide) only [sA_eq, sA_uA, sA_uA_ne, uA_abs, uA_abs2, uA_uA]; done) | (refine PH_ext (fun _ _ _ => ?_) (fun _ _ _ => ?_) (fun _ _ _ => ?_) <;> simp only [gF_sF, gF_sA, gF_uA, gF_sD, gA_sF, gA_sA, gA_uA, gA_sD, gD_sF, gD_sA, gD_uA, gD_sD] <;> (repeat' split) <;> first | rfl | (exfalso; omega) | simp_all)) ?_
            refine pw_iret r_12_compared_90 rfl (Nat.le_refl _) ⟨rfl, ?_⟩
            exact pe (h2 a2 (fun e0 => wk (sgn b n a1) (s1 e0) (s2 e0)) (EvX_lev (by decide) q1 (EvX_cmp (by omega) p1)) (by omega) (by omega)) (by show _ = wk (sgn b n a1) (s1 e) (s2 e); first | (exfalso; omega) | (rw [wk_60 (by omega)]; first | rw [b2i_t (by omega)] | rw [b2i_f (by omega)]; done) | (rw [wk_61 (by omega)]; first | rw [b2i_t (by omega)] | rw [b2i_f (by omega)]; done) | (rw [wk_62 (by omega)]; first | rw [b2i_t (by omega)] | rw [b2i_f (by omega)]; done))
    · skip
      refine pw_iload r_12_compared_23 rfl ?_
      refine pw_const r_12_compared_24 ?_
      refine pw_icmp_eq r_12_compared_26 (fun h26 => ?_) (fun h26 => ?_)
      · skip
        refine pw_aload r_12_compared_37 rfl ?_
        refine pw_dup r_12_compared_38 rfl ?_
        refine pw_getIv (v := a1) r_12_compared_39 fs_12_45 (by decide) (by first | rfl | simp [gF_sF, gF_sA, gF_uA, gF_sD, gA_sF, gA_sA, gA_uA, gA_sD, gD_sF, gD_sA, gD_uA, gD_sD]) ?_
        refine pw_const r_12_compared_42 ?_
        refine pw_iadd r_12_compared_43 (by omega) ?_
        refine pw_putI r_12_compared_44 (by decide +kernel) fs_12_45 (by decide) ?_
        refine pw_aload r_12_compared_47 rfl ?_
        refine pw_callV (av := []) (st := []) (ls0 := [some (vR 12 (0)), none, none, none]) r_12_compared_48 rfl rfl rfl (Nat.le_refl _) ?_
        refine ih0 (d := d) (o := o) (n := n) (a := (a1 + 1)) (bs := bs) (b := b) (e := e) (by omega) (by exact hb) (by first | exact hbs | (simp (disch := decide) only [gF_sF]; first | done | exact hbs | omega | (simp; first | done | omega))) (by first | assumption | exact hba | omega) (by first | exact hn | (simp (disch := decide) only [gF_sF]; first | done | exact hn | omega | (simp; first | done | omega))) (by first | assumption | exact hnn | omega) (by first | exact ha | rfl | (simp (disch := decide) only [gF_sF]; first | done | omega | (simp; first | done | omega))) (by first | assumption | exact haa | omega) (by first | exact hf | (simp (disch := decide) only [gF_sF]; first | done | exact hf | omega | (simp; first | done | omega))) (by first | assumption | exact ho | omega) (by first | exact hop | (simp (disch := decide) only [gF_sF]; first | done | exact hop | omega | (simp; first | done | omega))) (by exact hve) ?_ ?_
        · skip
          intro f2 v2 x2 p1 p2 p3 p4 p5
          refine pw_istore (ls' := [some (vR 12 (0)), some (vI (s1 e)), some (vI (byt b n a1)), some (vI (v2))]) r_12_compared_51 rfl rfl ?_
          refine pw_iload r_12_compared_52 rfl ?_
          refine pw_const r_12_compared_53 ?_
          refine pw_icmp_ne r_12_compared_55 (fun h55 => ?_) (fun h55 => ?_)
          · skip
            refine pw_iload r_12_compared_66 rfl ?_
            refine pw_const r_12_compared_67 ?_
            refine pw_icmp_ne r_12_compared_69 (fun h69 => ?_) (fun h69 => ?_)
            · skip
              refine pw_iload r_12_compared_80 rfl ?_
              refine pw_iload r_12_compared_81 rfl ?_
              refine pw_icmp_le r_12_compared_82 (fun h82 => ?_) (fun h82 => ?_)
              · skip
                refine pw_const r_12_compared_89 ?_
                refine pw_eqG (G' := sF (sF (sF G 12 (0) 45 (f2)) 12 (0) 48 (x2)) 12 (0) 47 (f2)) (by first | rfl | (rw [uA_self]; done) | (rw [sA_uA]; done) | (rw [sA_eq]; done) | (simp (disch := decide) only [sA_uA, sA_uA_ne, uA_abs, uA_abs2, uA_uA]; done) | (simp (disch := decide) only [sA_eq, sA_uA, sA_uA_ne, uA_abs, uA_abs2, uA_uA]; done) | (refine PH_ext (fun _ _ _ => ?_) (fun _ _ _ => ?_) (fun _ _ _ => ?_) <;> simp only [gF_sF, gF_sA, gF_uA, gF_sD, gA_sF, gA_sA, gA_uA, gA_sD, gD_sF, gD_sA, gD_uA, gD_sD] <;> (repeat' split) <;> first | rfl | (exfalso; omega) | simp_all)) ?_
                refine pw_iret r_12_compared_90 rfl (Nat.le_refl _) ⟨rfl, ?_⟩
                exact h1 f2 _ x2 (EvX_lev (by decide) q1 (EvX_moreF (by omega) p1)) (by omega) (by omega) p4 p5
              · skip
                refine pw_const r_12_compared_85 ?_
                refine pw_goto r_12_compared_86 ?_
                refine pw_eqG (G' := sF (sF (sF G 12 (0) 45 (f2)) 12 (0) 48 (x2)) 12 (0) 47 (f2)) (by first | rfl | (rw [uA_self]; done) | (rw [sA_uA]; done) | (rw [sA_eq]; done) | (simp (disch := decide) only [sA_uA, sA_uA_ne, uA_abs, uA_abs2, uA_uA]; done) | (simp (disch := decide) only [sA_eq, sA_uA, sA_uA_ne, uA_abs, uA_abs2, uA_uA]; done) | (refine PH_ext (fun _ _ _ => ?_) (fun _ _ _ => ?_) (fun _ _ _ => ?_) <;> simp only [gF_sF, gF_sA, gF_uA, gF_sD, gA_sF, gA_sA, gA_uA, gA_sD, gD_sF, gD_sA, gD_uA, gD_sD] <;> (repeat' split) <;> first | rfl | (exfalso; omega) | simp_all)) ?_
                refine pw_iret r_12_compared_90 rfl (Nat.le_refl _) ⟨rfl, ?_⟩
                exact h1 f2 _ x2 (EvX_lev (by decide) q1 (EvX_moreF (by omega) p1)) (by omega) (by omega) p4 p5
            · skip
              refine pw_iload r_12_compared_72 rfl ?_
              refine pw_iload r_12_compared_73 rfl ?_
              refine pw_icmp_ne r_12_compared_74 (fun h74 => ?_) (fun h74 => ?_)
              · skip
                refine pw_const r_12_compared_89 ?_
                refine pw_eqG (G' := sF (sF (sF G 12 (0) 45 (f2)) 12 (0) 48 (x2)) 12 (0) 47 (f2)) (by first | rfl | (rw [uA_self]; done) | (rw [sA_uA]; done) | (rw [sA_eq]; done) | (simp (disch := decide) only [sA_uA, sA_uA_ne, uA_abs, uA_abs2, uA_uA]; done) | (simp (disch := decide) only [sA_eq, sA_uA, sA_uA_ne, uA_abs, uA_abs2, uA_uA]; done) | (refine PH_ext (fun _ _ _ => ?_) (fun _ _ _ => ?_) (fun _ _ _ => ?_) <;> simp only [gF_sF, gF_sA, gF_uA, gF_sD, gA_sF, gA_sA, gA_uA, gA_sD, gD_sF, gD_sA, gD_uA, gD_sD] <;> (repeat' split) <;> first | rfl | (exfalso; omega) | simp_all)) ?_
                refine pw_iret r_12_compared_90 rfl (Nat.le_refl _) ⟨rfl, ?_⟩
                exact h1 f2 _ x2 (EvX_lev (by decide) q1 (EvX_moreF (by omega) p1)) (by omega) (by omega) p4 p5
              · skip
                refine pw_goto r_12_compared_77 ?_
                refine pw_const r_12_compared_85 ?_
                refine pw_goto r_12_compared_86 ?_
                refine pw_eqG (G' := sF (sF (sF G 12 (0) 45 (f2)) 12 (0) 48 (x2)) 12 (0) 47 (f2)) (by first | rfl | (rw [uA_self]; done) | (rw [sA_uA]; done) | (rw [sA_eq]; done) | (simp (disch := decide) only [sA_uA, sA_uA_ne, uA_abs, uA_abs2, uA_uA]; done) | (simp (disch := decide) only [sA_eq, sA_uA, sA_uA_ne, uA_abs, uA_abs2, uA_uA]; done) | (refine PH_ext (fun _ _ _ => ?_) (fun _ _ _ => ?_) (fun _ _ _ => ?_) <;> simp only [gF_sF, gF_sA, gF_uA, gF_sD, gA_sF, gA_sA, gA_uA, gA_sD, gD_sF, gD_sA, gD_uA, gD_sD] <;> (repeat' split) <;> first | rfl | (exfalso; omega) | simp_all)) ?_
                refine pw_iret r_12_compared_90 rfl (Nat.le_refl _) ⟨rfl, ?_⟩
                exact h1 f2 _ x2 (EvX_lev (by decide) q1 (EvX_moreF (by omega) p1)) (by omega) (by omega) p4 p5
          · skip
            refine pw_iload r_12_compared_58 rfl ?_
            refine pw_iload r_12_compared_59 rfl ?_
            refine pw_icmp_ge r_12_compared_60 (fun h60 => ?_) (fun h60 => ?_)
            · skip
              refine pw_const r_12_compared_89 ?_
              refine pw_eqG (G' := sF (sF (sF G 12 (0) 45 (f2)) 12 (0) 48 (x2)) 12 (0) 47 (f2)) (by first | rfl | (rw [uA_self]; done) | (rw [sA_uA]; done) | (rw [sA_eq]; done) | (simp (disch := decide) only [sA_uA, sA_uA_ne, uA_abs, uA_abs2, uA_uA]; done) | (simp (disch := decide) only [sA_eq, sA_uA, sA_uA_ne, uA_abs, uA_abs2, uA_uA]; done) | (refine PH_ext (fun _ _ _ => ?_) (fun _ _ _ => ?_) (fun _ _ _ => ?_) <;> simp only [gF_sF, gF_sA, gF_uA, gF_sD, gA_sF, gA_sA, gA_uA, gA_sD, gD_sF, gD_sA, gD_uA, gD_sD] <;> (repeat' split) <;> first | rfl | (exfalso; omega) | simp_all)) ?_
              refine pw_iret r_12_compared_90 rfl (Nat.le_refl _) ⟨rfl, ?_⟩
              exact h1 f2 _ x2 (EvX_lev (by decide) q1 (EvX_moreF (by omega) p1)) (by omega) (by omega) p4 p5
            · skip
              refine pw_goto r_12_compared_63 ?_
              refine pw_const r_12_compared_85 ?_
              refine pw_goto r_12_compared_86 ?_
              refine pw_eqG (G' := sF (sF (sF G 12 (0) 45 (f2)) 12 (0) 48 (x2)) 12 (0) 47 (f2)) (by first | rfl | (rw [uA_self]; done) | (rw [sA_uA]; done) | (rw [sA_eq]; done) | (simp (disch := decide) only [sA_uA, sA_uA_ne, uA_abs, uA_abs2, uA_uA]; done) | (simp (disch := decide) only [sA_eq, sA_uA, sA_uA_ne, uA_abs, uA_abs2, uA_uA]; done) | (refine PH_ext (fun _ _ _ => ?_) (fun _ _ _ => ?_) (fun _ _ _ => ?_) <;> simp only [gF_sF, gF_sA, gF_uA, gF_sD, gA_sF, gA_sA, gA_uA, gA_sD, gD_sF, gD_sA, gD_uA, gD_sD] <;> (repeat' split) <;> first | rfl | (exfalso; omega) | simp_all)) ?_
              refine pw_iret r_12_compared_90 rfl (Nat.le_refl _) ⟨rfl, ?_⟩
              exact h1 f2 _ x2 (EvX_lev (by decide) q1 (EvX_moreF (by omega) p1)) (by omega) (by omega) p4 p5
        · skip
          intro a2 s2 p1 p2 p3
          refine pw_istore (ls' := [some (vR 12 (0)), some (vI (s1 e)), some (vI (byt b n a1)), some (vI (s2 e))]) r_12_compared_51 rfl rfl ?_
          refine pw_iload r_12_compared_52 rfl ?_
          refine pw_const r_12_compared_53 ?_
          refine pw_icmp_ne r_12_compared_55 (fun h55 => ?_) (fun h55 => ?_)
          · skip
            refine pw_iload r_12_compared_66 rfl ?_
            refine pw_const r_12_compared_67 ?_
            refine pw_icmp_ne r_12_compared_69 (fun h69 => ?_) (fun h69 => ?_)
            · skip
              refine pw_iload r_12_compared_80 rfl ?_
              refine pw_iload r_12_compared_81 rfl ?_
              refine pw_icmp_le r_12_compared_82 (fun h82 => ?_) (fun h82 => ?_)
              · skip
                refine pw_const r_12_compared_89 ?_
                refine pw_eqG (G' := sF (sF G 12 (0) 45 (a2)) 12 (0) 48 (o)) (by first | rfl | (rw [uA_self]; done) | (rw [sA_uA]; done) | (rw [sA_eq]; done) | (simp (disch := decide) only [sA_uA, sA_uA_ne, uA_abs, uA_abs2, uA_uA]; done) | (simp (disch := decide) only [sA_eq, sA_uA, sA_uA_ne, uA_abs, uA_abs2, uA_uA]; done) | (refine PH_ext (fun _ _ _ => ?_) (fun _ _ _ => ?_) (fun _ _ _ => ?_) <;> simp only [gF_sF, gF_sA, gF_uA, gF_sD, gA_sF, gA_sA, gA_uA, gA_sD, gD_sF, gD_sA, gD_uA, gD_sD] <;> (repeat' split) <;> first | rfl | (exfalso; omega) | simp_all)) ?_
                refine pw_iret r_12_compared_90 rfl (Nat.le_refl _) ⟨rfl, ?_⟩
                exact pe (h2 a2 (fun e0 => wk (sgn b n a1) (s1 e0) (s2 e0)) (EvX_lev (by decide) q1 (EvX_cmp (by omega) p1)) (by omega) (by omega)) (by show _ = wk (sgn b n a1) (s1 e) (s2 e); first | (exfalso; omega) | (rw [wk_60 (by omega)]; first | rw [b2i_t (by omega)] | rw [b2i_f (by omega)]; done) | (rw [wk_61 (by omega)]; first | rw [b2i_t (by omega)] | rw [b2i_f (by omega)]; done) | (rw [wk_62 (by omega)]; first | rw [b2i_t (by omega)] | rw [b2i_f (by omega)]; done))
              · skip
                refine pw_const r_12_compared_85 ?_
                refine pw_goto r_12_compared_86 ?_
                refine pw_eqG (G' := sF (sF G 12 (0) 45 (a2)) 12 (0) 48 (o)) (by first | rfl | (rw [uA_self]; done) | (rw [sA_uA]; done) | (rw [sA_eq]; done) | (simp (disch := decide) only [sA_uA, sA_uA_ne, uA_abs, uA_abs2, uA_uA]; done) | (simp (disch := decide) only [sA_eq, sA_uA, sA_uA_ne, uA_abs, uA_abs2, uA_uA]; done) | (refine PH_ext (fun _ _ _ => ?_) (fun _ _ _ => ?_) (fun _ _ _ => ?_) <;> simp only [gF_sF, gF_sA, gF_uA, gF_sD, gA_sF, gA_sA, gA_uA, gA_sD, gD_sF, gD_sA, gD_uA, gD_sD] <;> (repeat' split) <;> first | rfl | (exfalso; omega) | simp_all)) ?_
                refine pw_iret r_12_compared_90 rfl (Nat.le_refl _) ⟨rfl, ?_⟩
                exact pe (h2 a2 (fun e0 => wk (sgn b n a1) (s1 e0) (s2 e0)) (EvX_lev (by decide) q1 (EvX_cmp (by omega) p1)) (by omega) (by omega)) (by show _ = wk (sgn b n a1) (s1 e) (s2 e); first | (exfalso; omega) | (rw [wk_60 (by omega)]; first | rw [b2i_t (by omega)] | rw [b2i_f (by omega)]; done) | (rw [wk_61 (by omega)]; first | rw [b2i_t (by omega)] | rw [b2i_f (by omega)]; done) | (rw [wk_62 (by omega)]; first | rw [b2i_t (by omega)] | rw [b2i_f (by omega)]; done))
            · skip
              refine pw_iload r_12_compared_72 rfl ?_
              refine pw_iload r_12_compared_73 rfl ?_
              refine pw_icmp_ne r_12_compared_74 (fun h74 => ?_) (fun h74 => ?_)
              · skip
                refine pw_const r_12_compared_89 ?_
                refine pw_eqG (G' := sF (sF G 12 (0) 45 (a2)) 12 (0) 48 (o)) (by first | rfl | (rw [uA_self]; done) | (rw [sA_uA]; done) | (rw [sA_eq]; done) | (simp (disch := decide) only [sA_uA, sA_uA_ne, uA_abs, uA_abs2, uA_uA]; done) | (simp (disch := decide) only [sA_eq, sA_uA, sA_uA_ne, uA_abs, uA_abs2, uA_uA]; done) | (refine PH_ext (fun _ _ _ => ?_) (fun _ _ _ => ?_) (fun _ _ _ => ?_) <;> simp only [gF_sF, gF_sA, gF_uA, gF_sD, gA_sF, gA_sA, gA_uA, gA_sD, gD_sF, gD_sA, gD_uA, gD_sD] <;> (repeat' split) <;> first | rfl | (exfalso; omega) | simp_all)) ?_
                refine pw_iret r_12_compared_90 rfl (Nat.le_refl _) ⟨rfl, ?_⟩
                exact pe (h2 a2 (fun e0 => wk (sgn b n a1) (s1 e0) (s2 e0)) (EvX_lev (by decide) q1 (EvX_cmp (by omega) p1)) (by omega) (by omega)) (by show _ = wk (sgn b n a1) (s1 e) (s2 e); first | (exfalso; omega) | (rw [wk_60 (by omega)]; first | rw [b2i_t (by omega)] | rw [b2i_f (by omega)]; done) | (rw [wk_61 (by omega)]; first | rw [b2i_t (by omega)] | rw [b2i_f (by omega)]; done) | (rw [wk_62 (by omega)]; first | rw [b2i_t (by omega)] | rw [b2i_f (by omega)]; done))
              · skip
                refine pw_goto r_12_compared_77 ?_
                refine pw_const r_12_compared_85 ?_
                refine pw_goto r_12_compared_86 ?_
                refine pw_eqG (G' := sF (sF G 12 (0) 45 (a2)) 12 (0) 48 (o)) (by first | rfl | (rw [uA_self]; done) | (rw [sA_uA]; done) | (rw [sA_eq]; done) | (simp (disch := decide) only [sA_uA, sA_uA_ne, uA_abs, uA_abs2, uA_uA]; done) | (simp (disch := decide) only [sA_eq, sA_uA, sA_uA_ne, uA_abs, uA_abs2, uA_uA]; done) | (refine PH_ext (fun _ _ _ => ?_) (fun _ _ _ => ?_) (fun _ _ _ => ?_) <;> simp only [gF_sF, gF_sA, gF_uA, gF_sD, gA_sF, gA_sA, gA_uA, gA_sD, gD_sF, gD_sA, gD_uA, gD_sD] <;> (repeat' split) <;> first | rfl | (exfalso; omega) | simp_all)) ?_
                refine pw_iret r_12_compared_90 rfl (Nat.le_refl _) ⟨rfl, ?_⟩
                exact pe (h2 a2 (fun e0 => wk (sgn b n a1) (s1 e0) (s2 e0)) (EvX_lev (by decide) q1 (EvX_cmp (by omega) p1)) (by omega) (by omega)) (by show _ = wk (sgn b n a1) (s1 e) (s2 e); first | (exfalso; omega) | (rw [wk_60 (by omega)]; first | rw [b2i_t (by omega)] | rw [b2i_f (by omega)]; done) | (rw [wk_61 (by omega)]; first | rw [b2i_t (by omega)] | rw [b2i_f (by omega)]; done) | (rw [wk_62 (by omega)]; first | rw [b2i_t (by omega)] | rw [b2i_f (by omega)]; done))
          · skip
            refine pw_iload r_12_compared_58 rfl ?_
            refine pw_iload r_12_compared_59 rfl ?_
            refine pw_icmp_ge r_12_compared_60 (fun h60 => ?_) (fun h60 => ?_)
            · skip
              refine pw_const r_12_compared_89 ?_
              refine pw_eqG (G' := sF (sF G 12 (0) 45 (a2)) 12 (0) 48 (o)) (by first | rfl | (rw [uA_self]; done) | (rw [sA_uA]; done) | (rw [sA_eq]; done) | (simp (disch := decide) only [sA_uA, sA_uA_ne, uA_abs, uA_abs2, uA_uA]; done) | (simp (disch := decide) only [sA_eq, sA_uA, sA_uA_ne, uA_abs, uA_abs2, uA_uA]; done) | (refine PH_ext (fun _ _ _ => ?_) (fun _ _ _ => ?_) (fun _ _ _ => ?_) <;> simp only [gF_sF, gF_sA, gF_uA, gF_sD, gA_sF, gA_sA, gA_uA, gA_sD, gD_sF, gD_sA, gD_uA, gD_sD] <;> (repeat' split) <;> first | rfl | (exfalso; omega) | simp_all)) ?_
              refine pw_iret r_12_compared_90 rfl (Nat.le_refl _) ⟨rfl, ?_⟩
              exact pe (h2 a2 (fun e0 => wk (sgn b n a1) (s1 e0) (s2 e0)) (EvX_lev (by decide) q1 (EvX_cmp (by omega) p1)) (by omega) (by omega)) (by show _ = wk (sgn b n a1) (s1 e) (s2 e); first | (exfalso; omega) | (rw [wk_60 (by omega)]; first | rw [b2i_t (by omega)] | rw [b2i_f (by omega)]; done) | (rw [wk_61 (by omega)]; first | rw [b2i_t (by omega)] | rw [b2i_f (by omega)]; done) | (rw [wk_62 (by omega)]; first | rw [b2i_t (by omega)] | rw [b2i_f (by omega)]; done))
            · skip
              refine pw_goto r_12_compared_63 ?_
              refine pw_const r_12_compared_85 ?_
              refine pw_goto r_12_compared_86 ?_
              refine pw_eqG (G' := sF (sF G 12 (0) 45 (a2)) 12 (0) 48 (o)) (by first | rfl | (rw [uA_self]; done) | (rw [sA_uA]; done) | (rw [sA_eq]; done) | (simp (disch := decide) only [sA_uA, sA_uA_ne, uA_abs, uA_abs2, uA_uA]; done) | (simp (disch := decide) only [sA_eq, sA_uA, sA_uA_ne, uA_abs, uA_abs2, uA_uA]; done) | (refine PH_ext (fun _ _ _ => ?_) (fun _ _ _ => ?_) (fun _ _ _ => ?_) <;> simp only [gF_sF, gF_sA, gF_uA, gF_sD, gA_sF, gA_sA, gA_uA, gA_sD, gD_sF, gD_sA, gD_uA, gD_sD] <;> (repeat' split) <;> first | rfl | (exfalso; omega) | simp_all)) ?_
              refine pw_iret r_12_compared_90 rfl (Nat.le_refl _) ⟨rfl, ?_⟩
              exact pe (h2 a2 (fun e0 => wk (sgn b n a1) (s1 e0) (s2 e0)) (EvX_lev (by decide) q1 (EvX_cmp (by omega) p1)) (by omega) (by omega)) (by show _ = wk (sgn b n a1) (s1 e) (s2 e); first | (exfalso; omega) | (rw [wk_60 (by omega)]; first | rw [b2i_t (by omega)] | rw [b2i_f (by omega)]; done) | (rw [wk_61 (by omega)]; first | rw [b2i_t (by omega)] | rw [b2i_f (by omega)]; done) | (rw [wk_62 (by omega)]; first | rw [b2i_t (by omega)] | rw [b2i_f (by omega)]; done))
      · skip
        refine pw_iload r_12_compared_29 rfl ?_
        refine pw_const r_12_compared_30 ?_
        refine pw_icmp_eq r_12_compared_32 (fun h32 => ?_) (fun h32 => ?_)
        · skip
          refine pw_aload r_12_compared_37 rfl ?_
          refine pw_dup r_12_compared_38 rfl ?_
          refine pw_getIv (v := a1) r_12_compared_39 fs_12_45 (by decide) (by first | rfl | simp [gF_sF, gF_sA, gF_uA, gF_sD, gA_sF, gA_sA, gA_uA, gA_sD, gD_sF, gD_sA, gD_uA, gD_sD]) ?_
          refine pw_const r_12_compared_42 ?_
          refine pw_iadd r_12_compared_43 (by omega) ?_
          refine pw_putI r_12_compared_44 (by decide +kernel) fs_12_45 (by decide) ?_
          refine pw_aload r_12_compared_47 rfl ?_
          refine pw_callV (av := []) (st := []) (ls0 := [some (vR 12 (0)), none, none, none]) r_12_compared_48 rfl rfl rfl (Nat.le_refl _) ?_
          refine ih0 (d := d) (o := o) (n := n) (a := (a1 + 1)) (bs := bs) (b := b) (e := e) (by omega) (by exact hb) (by first | exact hbs | (simp (disch := decide) only [gF_sF]; first | done | exact hbs | omega | (simp; first | done | omega))) (by first | assumption | exact hba | omega) (by first | exact hn | (simp (disch := decide) only [gF_sF]; first | done | exact hn | omega | (simp; first | done | omega))) (by first | assumption | exact hnn | omega) (by first | exact ha | rfl | (simp (disch := decide) only [gF_sF]; first | done | omega | (simp; first | done | omega))) (by first | assumption | exact haa | omega) (by first | exact hf | (simp (disch := decide) only [gF_sF]; first | done | exact hf | omega | (simp; first | done | omega))) (by first | assumption | exact ho | omega) (by first | exact hop | (simp (disch := decide) only [gF_sF]; first | done | exact hop | omega | (simp; first | done | omega))) (by exact hve) ?_ ?_
          · skip
            intro f2 v2 x2 p1 p2 p3 p4 p5
            refine pw_istore (ls' := [some (vR 12 (0)), some (vI (s1 e)), some (vI (byt b n a1)), some (vI (v2))]) r_12_compared_51 rfl rfl ?_
            refine pw_iload r_12_compared_52 rfl ?_
            refine pw_const r_12_compared_53 ?_
            refine pw_icmp_ne r_12_compared_55 (fun h55 => ?_) (fun h55 => ?_)
            · skip
              refine pw_iload r_12_compared_66 rfl ?_
              refine pw_const r_12_compared_67 ?_
              refine pw_icmp_ne r_12_compared_69 (fun h69 => ?_) (fun h69 => ?_)
              · skip
                refine pw_iload r_12_compared_80 rfl ?_
                refine pw_iload r_12_compared_81 rfl ?_
                refine pw_icmp_le r_12_compared_82 (fun h82 => ?_) (fun h82 => ?_)
                · skip
                  refine pw_const r_12_compared_89 ?_
                  refine pw_eqG (G' := sF (sF (sF G 12 (0) 45 (f2)) 12 (0) 48 (x2)) 12 (0) 47 (f2)) (by first | rfl | (rw [uA_self]; done) | (rw [sA_uA]; done) | (rw [sA_eq]; done) | (simp (disch := decide) only [sA_uA, sA_uA_ne, uA_abs, uA_abs2, uA_uA]; done) | (simp (disch := decide) only [sA_eq, sA_uA, sA_uA_ne, uA_abs, uA_abs2, uA_uA]; done) | (refine PH_ext (fun _ _ _ => ?_) (fun _ _ _ => ?_) (fun _ _ _ => ?_) <;> simp only [gF_sF, gF_sA, gF_uA, gF_sD, gA_sF, gA_sA, gA_uA, gA_sD, gD_sF, gD_sA, gD_uA, gD_sD] <;> (repeat' split) <;> first | rfl | (exfalso; omega) | simp_all)) ?_
                  refine pw_iret r_12_compared_90 rfl (Nat.le_refl _) ⟨rfl, ?_⟩
                  exact h1 f2 _ x2 (EvX_lev (by decide) q1 (EvX_moreF (by omega) p1)) (by omega) (by omega) p4 p5
                · skip
                  refine pw_const r_12_compared_85 ?_
                  refine pw_goto r_12_compared_86 ?_
                  refine pw_eqG (G' := sF (sF (sF G 12 (0) 45 (f2)) 12 (0) 48 (x2)) 12 (0) 47 (f2)) (by first | rfl | (rw [uA_self]; done) | (rw [sA_uA]; done) | (rw [sA_eq]; done) | (simp (disch := decide) only [sA_uA, sA_uA_ne, uA_abs, uA_abs2, uA_uA]; done) | (simp (disch := decide) only [sA_eq, sA_uA, sA_uA_ne, uA_abs, uA_abs2, uA_uA]; done) | (refine PH_ext (fun _ _ _ => ?_) (fun _ _ _ => ?_) (fun _ _ _ => ?_) <;> simp only [gF_sF, gF_sA, gF_uA, gF_sD, gA_sF, gA_sA, gA_uA, gA_sD, gD_sF, gD_sA, gD_uA, gD_sD] <;> (repeat' split) <;> first | rfl | (exfalso; omega) | simp_all)) ?_
                  refine pw_iret r_12_compared_90 rfl (Nat.le_refl _) ⟨rfl, ?_⟩
                  exact h1 f2 _ x2 (EvX_lev (by decide) q1 (EvX_moreF (by omega) p1)) (by omega) (by omega) p4 p5
              · skip
                refine pw_iload r_12_compared_72 rfl ?_
                refine pw_iload r_12_compared_73 rfl ?_
                refine pw_icmp_ne r_12_compared_74 (fun h74 => ?_) (fun h74 => ?_)
                · skip
                  refine pw_const r_12_compared_89 ?_
                  refine pw_eqG (G' := sF (sF (sF G 12 (0) 45 (f2)) 12 (0) 48 (x2)) 12 (0) 47 (f2)) (by first | rfl | (rw [uA_self]; done) | (rw [sA_uA]; done) | (rw [sA_eq]; done) | (simp (disch := decide) only [sA_uA, sA_uA_ne, uA_abs, uA_abs2, uA_uA]; done) | (simp (disch := decide) only [sA_eq, sA_uA, sA_uA_ne, uA_abs, uA_abs2, uA_uA]; done) | (refine PH_ext (fun _ _ _ => ?_) (fun _ _ _ => ?_) (fun _ _ _ => ?_) <;> simp only [gF_sF, gF_sA, gF_uA, gF_sD, gA_sF, gA_sA, gA_uA, gA_sD, gD_sF, gD_sA, gD_uA, gD_sD] <;> (repeat' split) <;> first | rfl | (exfalso; omega) | simp_all)) ?_
                  refine pw_iret r_12_compared_90 rfl (Nat.le_refl _) ⟨rfl, ?_⟩
                  exact h1 f2 _ x2 (EvX_lev (by decide) q1 (EvX_moreF (by omega) p1)) (by omega) (by omega) p4 p5
                · skip
                  refine pw_goto r_12_compared_77 ?_
                  refine pw_const r_12_compared_85 ?_
                  refine pw_goto r_12_compared_86 ?_
                  refine pw_eqG (G' := sF (sF (sF G 12 (0) 45 (f2)) 12 (0) 48 (x2)) 12 (0) 47 (f2)) (by first | rfl | (rw [uA_self]; done) | (rw [sA_uA]; done) | (rw [sA_eq]; done) | (simp (disch := decide) only [sA_uA, sA_uA_ne, uA_abs, uA_abs2, uA_uA]; done) | (simp (disch := decide) only [sA_eq, sA_uA, sA_uA_ne, uA_abs, uA_abs2, uA_uA]; done) | (refine PH_ext (fun _ _ _ => ?_) (fun _ _ _ => ?_) (fun _ _ _ => ?_) <;> simp only [gF_sF, gF_sA, gF_uA, gF_sD, gA_sF, gA_sA, gA_uA, gA_sD, gD_sF, gD_sA, gD_uA, gD_sD] <;> (repeat' split) <;> first | rfl | (exfalso; omega) | simp_all)) ?_
                  refine pw_iret r_12_compared_90 rfl (Nat.le_refl _) ⟨rfl, ?_⟩
                  exact h1 f2 _ x2 (EvX_lev (by decide) q1 (EvX_moreF (by omega) p1)) (by omega) (by omega) p4 p5
            · skip
              refine pw_iload r_12_compared_58 rfl ?_
              refine pw_iload r_12_compared_59 rfl ?_
              refine pw_icmp_ge r_12_compared_60 (fun h60 => ?_) (fun h60 => ?_)
              · skip
                refine pw_const r_12_compared_89 ?_
                refine pw_eqG (G' := sF (sF (sF G 12 (0) 45 (f2)) 12 (0) 48 (x2)) 12 (0) 47 (f2)) (by first | rfl | (rw [uA_self]; done) | (rw [sA_uA]; done) | (rw [sA_eq]; done) | (simp (disch := decide) only [sA_uA, sA_uA_ne, uA_abs, uA_abs2, uA_uA]; done) | (simp (disch := decide) only [sA_eq, sA_uA, sA_uA_ne, uA_abs, uA_abs2, uA_uA]; done) | (refine PH_ext (fun _ _ _ => ?_) (fun _ _ _ => ?_) (fun _ _ _ => ?_) <;> simp only [gF_sF, gF_sA, gF_uA, gF_sD, gA_sF, gA_sA, gA_uA, gA_sD, gD_sF, gD_sA, gD_uA, gD_sD] <;> (repeat' split) <;> first | rfl | (exfalso; omega) | simp_all)) ?_
                refine pw_iret r_12_compared_90 rfl (Nat.le_refl _) ⟨rfl, ?_⟩
                exact h1 f2 _ x2 (EvX_lev (by decide) q1 (EvX_moreF (by omega) p1)) (by omega) (by omega) p4 p5
              · skip
                refine pw_goto r_12_compared_63 ?_
                refine pw_const r_12_compared_85 ?_
                refine pw_goto r_12_compared_86 ?_
                refine pw_eqG (G' := sF (sF (sF G 12 (0) 45 (f2)) 12 (0) 48 (x2)) 12 (0) 47 (f2)) (by first | rfl | (rw [uA_self]; done) | (rw [sA_uA]; done) | (rw [sA_eq]; done) | (simp (disch := decide) only [sA_uA, sA_uA_ne, uA_abs, uA_abs2, uA_uA]; done) | (simp (disch := decide) only [sA_eq, sA_uA, sA_uA_ne, uA_abs, uA_abs2, uA_uA]; done) | (refine PH_ext (fun _ _ _ => ?_) (fun _ _ _ => ?_) (fun _ _ _ => ?_) <;> simp only [gF_sF, gF_sA, gF_uA, gF_sD, gA_sF, gA_sA, gA_uA, gA_sD, gD_sF, gD_sA, gD_uA, gD_sD] <;> (repeat' split) <;> first | rfl | (exfalso; omega) | simp_all)) ?_
                refine pw_iret r_12_compared_90 rfl (Nat.le_refl _) ⟨rfl, ?_⟩
                exact h1 f2 _ x2 (EvX_lev (by decide) q1 (EvX_moreF (by omega) p1)) (by omega) (by omega) p4 p5
          · skip
            intro a2 s2 p1 p2 p3
            refine pw_istore (ls' := [some (vR 12 (0)), some (vI (s1 e)), some (vI (byt b n a1)), some (vI (s2 e))]) r_12_compared_51 rfl rfl ?_
            refine pw_iload r_12_compared_52 rfl ?_
            refine pw_const r_12_compared_53 ?_
            refine pw_icmp_ne r_12_compared_55 (fun h55 => ?_) (fun h55 => ?_)
            · skip
              refine pw_iload r_12_compared_66 rfl ?_
              refine pw_const r_12_compared_67 ?_
              refine pw_icmp_ne r_12_compared_69 (fun h69 => ?_) (fun h69 => ?_)
              · skip
                refine pw_iload r_12_compared_80 rfl ?_
                refine pw_iload r_12_compared_81 rfl ?_
                refine pw_icmp_le r_12_compared_82 (fun h82 => ?_) (fun h82 => ?_)
                · skip
                  refine pw_const r_12_compared_89 ?_
                  refine pw_eqG (G' := sF (sF G 12 (0) 45 (a2)) 12 (0) 48 (o)) (by first | rfl | (rw [uA_self]; done) | (rw [sA_uA]; done) | (rw [sA_eq]; done) | (simp (disch := decide) only [sA_uA, sA_uA_ne, uA_abs, uA_abs2, uA_uA]; done) | (simp (disch := decide) only [sA_eq, sA_uA, sA_uA_ne, uA_abs, uA_abs2, uA_uA]; done) | (refine PH_ext (fun _ _ _ => ?_) (fun _ _ _ => ?_) (fun _ _ _ => ?_) <;> simp only [gF_sF, gF_sA, gF_uA, gF_sD, gA_sF, gA_sA, gA_uA, gA_sD, gD_sF, gD_sA, gD_uA, gD_sD] <;> (repeat' split) <;> first | rfl | (exfalso; omega) | simp_all)) ?_
                  refine pw_iret r_12_compared_90 rfl (Nat.le_refl _) ⟨rfl, ?_⟩
                  exact pe (h2 a2 (fun e0 => wk (sgn b n a1) (s1 e0) (s2 e0)) (EvX_lev (by decide) q1 (EvX_cmp (by omega) p1)) (by omega) (by omega)) (by show _ = wk (sgn b n a1) (s1 e) (s2 e); first | (exfalso; omega) | (rw [wk_60 (by omega)]; first | rw [b2i_t (by omega)] | rw [b2i_f (by omega)]; done) | (rw [wk_61 (by omega)]; first | rw [b2i_t (by omega)] | rw [b2i_f (by omega)]; done) | (rw [wk_62 (by omega)]; first | rw [b2i_t (by omega)] | rw [b2i_f (by omega)]; done))
                · skip
                  refine pw_const r_12_compared_85 ?_
                  refine pw_goto r_12_compared_86 ?_
                  refine pw_eqG (G' := sF (sF G 12 (0) 45 (a2)) 12 (0) 48 (o)) (by first | rfl | (rw [uA_self]; done) | (rw [sA_uA]; done) | (rw [sA_eq]; done) | (simp (disch := decide) only [sA_uA, sA_uA_ne, uA_abs, uA_abs2, uA_uA]; done) | (simp (disch := decide) only [sA_eq, sA_uA, sA_uA_ne, uA_abs, uA_abs2, uA_uA]; done) | (refine PH_ext (fun _ _ _ => ?_) (fun _ _ _ => ?_) (fun _ _ _ => ?_) <;> simp only [gF_sF, gF_sA, gF_uA, gF_sD, gA_sF, gA_sA, gA_uA, gA_sD, gD_sF, gD_sA, gD_uA, gD_sD] <;> (repeat' split) <;> first | rfl | (exfalso; omega) | simp_all)) ?_
                  refine pw_iret r_12_compared_90 rfl (Nat.le_refl _) ⟨rfl, ?_⟩
                  exact pe (h2 a2 (fun e0 => wk (sgn b n a1) (s1 e0) (s2 e0)) (EvX_lev (by decide) q1 (EvX_cmp (by omega) p1)) (by omega) (by omega)) (by show _ = wk (sgn b n a1) (s1 e) (s2 e); first | (exfalso; omega) | (rw [wk_60 (by omega)]; first | rw [b2i_t (by omega)] | rw [b2i_f (by omega)]; done) | (rw [wk_61 (by omega)]; first | rw [b2i_t (by omega)] | rw [b2i_f (by omega)]; done) | (rw [wk_62 (by omega)]; first | rw [b2i_t (by omega)] | rw [b2i_f (by omega)]; done))
              · skip
                refine pw_iload r_12_compared_72 rfl ?_
                refine pw_iload r_12_compared_73 rfl ?_
                refine pw_icmp_ne r_12_compared_74 (fun h74 => ?_) (fun h74 => ?_)
                · skip
                  refine pw_const r_12_compared_89 ?_
                  refine pw_eqG (G' := sF (sF G 12 (0) 45 (a2)) 12 (0) 48 (o)) (by first | rfl | (rw [uA_self]; done) | (rw [sA_uA]; done) | (rw [sA_eq]; done) | (simp (disch := decide) only [sA_uA, sA_uA_ne, uA_abs, uA_abs2, uA_uA]; done) | (simp (disch := decide) only [sA_eq, sA_uA, sA_uA_ne, uA_abs, uA_abs2, uA_uA]; done) | (refine PH_ext (fun _ _ _ => ?_) (fun _ _ _ => ?_) (fun _ _ _ => ?_) <;> simp only [gF_sF, gF_sA, gF_uA, gF_sD, gA_sF, gA_sA, gA_uA, gA_sD, gD_sF, gD_sA, gD_uA, gD_sD] <;> (repeat' split) <;> first | rfl | (exfalso; omega) | simp_all)) ?_
                  refine pw_iret r_12_compared_90 rfl (Nat.le_refl _) ⟨rfl, ?_⟩
                  exact pe (h2 a2 (fun e0 => wk (sgn b n a1) (s1 e0) (s2 e0)) (EvX_lev (by decide) q1 (EvX_cmp (by omega) p1)) (by omega) (by omega)) (by show _ = wk (sgn b n a1) (s1 e) (s2 e); first | (exfalso; omega) | (rw [wk_60 (by omega)]; first | rw [b2i_t (by omega)] | rw [b2i_f (by omega)]; done) | (rw [wk_61 (by omega)]; first | rw [b2i_t (by omega)] | rw [b2i_f (by omega)]; done) | (rw [wk_62 (by omega)]; first | rw [b2i_t (by omega)] | rw [b2i_f (by omega)]; done))
                · skip
                  refine pw_goto r_12_compared_77 ?_
                  refine pw_const r_12_compared_85 ?_
                  refine pw_goto r_12_compared_86 ?_
                  refine pw_eqG (G' := sF (sF G 12 (0) 45 (a2)) 12 (0) 48 (o)) (by first | rfl | (rw [uA_self]; done) | (rw [sA_uA]; done) | (rw [sA_eq]; done) | (simp (disch := decide) only [sA_uA, sA_uA_ne, uA_abs, uA_abs2, uA_uA]; done) | (simp (disch := decide) only [sA_eq, sA_uA, sA_uA_ne, uA_abs, uA_abs2, uA_uA]; done) | (refine PH_ext (fun _ _ _ => ?_) (fun _ _ _ => ?_) (fun _ _ _ => ?_) <;> simp only [gF_sF, gF_sA, gF_uA, gF_sD, gA_sF, gA_sA, gA_uA, gA_sD, gD_sF, gD_sA, gD_uA, gD_sD] <;> (repeat' split) <;> first | rfl | (exfalso; omega) | simp_all)) ?_
                  refine pw_iret r_12_compared_90 rfl (Nat.le_refl _) ⟨rfl, ?_⟩
                  exact pe (h2 a2 (fun e0 => wk (sgn b n a1) (s1 e0) (s2 e0)) (EvX_lev (by decide) q1 (EvX_cmp (by omega) p1)) (by omega) (by omega)) (by show _ = wk (sgn b n a1) (s1 e) (s2 e); first | (exfalso; omega) | (rw [wk_60 (by omega)]; first | rw [b2i_t (by omega)] | rw [b2i_f (by omega)]; done) | (rw [wk_61 (by omega)]; first | rw [b2i_t (by omega)] | rw [b2i_f (by omega)]; done) | (rw [wk_62 (by omega)]; first | rw [b2i_t (by omega)] | rw [b2i_f (by omega)]; done))
            · skip
              refine pw_iload r_12_compared_58 rfl ?_
              refine pw_iload r_12_compared_59 rfl ?_
              refine pw_icmp_ge r_12_compared_60 (fun h60 => ?_) (fun h60 => ?_)
              · skip
                refine pw_const r_12_compared_89 ?_
                refine pw_eqG (G' := sF (sF G 12 (0) 45 (a2)) 12 (0) 48 (o)) (by first | rfl | (rw [uA_self]; done) | (rw [sA_uA]; done) | (rw [sA_eq]; done) | (simp (disch := decide) only [sA_uA, sA_uA_ne, uA_abs, uA_abs2, uA_uA]; done) | (simp (disch := decide) only [sA_eq, sA_uA, sA_uA_ne, uA_abs, uA_abs2, uA_uA]; done) | (refine PH_ext (fun _ _ _ => ?_) (fun _ _ _ => ?_) (fun _ _ _ => ?_) <;> simp only [gF_sF, gF_sA, gF_uA, gF_sD, gA_sF, gA_sA, gA_uA, gA_sD, gD_sF, gD_sA, gD_uA, gD_sD] <;> (repeat' split) <;> first | rfl | (exfalso; omega) | simp_all)) ?_
                refine pw_iret r_12_compared_90 rfl (Nat.le_refl _) ⟨rfl, ?_⟩
                exact pe (h2 a2 (fun e0 => wk (sgn b n a1) (s1 e0) (s2 e0)) (EvX_lev (by decide) q1 (EvX_cmp (by omega) p1)) (by omega) (by omega)) (by show _ = wk (sgn b n a1) (s1 e) (s2 e); first | (exfalso; omega) | (rw [wk_60 (by omega)]; first | rw [b2i_t (by omega)] | rw [b2i_f (by omega)]; done) | (rw [wk_61 (by omega)]; first | rw [b2i_t (by omega)] | rw [b2i_f (by omega)]; done) | (rw [wk_62 (by omega)]; first | rw [b2i_t (by omega)] | rw [b2i_f (by omega)]; done))
              · skip
                refine pw_goto r_12_compared_63 ?_
                refine pw_const r_12_compared_85 ?_
                refine pw_goto r_12_compared_86 ?_
                refine pw_eqG (G' := sF (sF G 12 (0) 45 (a2)) 12 (0) 48 (o)) (by first | rfl | (rw [uA_self]; done) | (rw [sA_uA]; done) | (rw [sA_eq]; done) | (simp (disch := decide) only [sA_uA, sA_uA_ne, uA_abs, uA_abs2, uA_uA]; done) | (simp (disch := decide) only [sA_eq, sA_uA, sA_uA_ne, uA_abs, uA_abs2, uA_uA]; done) | (refine PH_ext (fun _ _ _ => ?_) (fun _ _ _ => ?_) (fun _ _ _ => ?_) <;> simp only [gF_sF, gF_sA, gF_uA, gF_sD, gA_sF, gA_sA, gA_uA, gA_sD, gD_sF, gD_sA, gD_uA, gD_sD] <;> (repeat' split) <;> first | rfl | (exfalso; omega) | simp_all)) ?_
                refine pw_iret r_12_compared_90 rfl (Nat.le_refl _) ⟨rfl, ?_⟩
                exact pe (h2 a2 (fun e0 => wk (sgn b n a1) (s1 e0) (s2 e0)) (EvX_lev (by decide) q1 (EvX_cmp (by omega) p1)) (by omega) (by omega)) (by show _ = wk (sgn b n a1) (s1 e) (s2 e); first | (exfalso; omega) | (rw [wk_60 (by omega)]; first | rw [b2i_t (by omega)] | rw [b2i_f (by omega)]; done) | (rw [wk_61 (by omega)]; first | rw [b2i_t (by omega)] | rw [b2i_f (by omega)]; done) | (rw [wk_62 (by omega)]; first | rw [b2i_t (by omega)] | rw [b2i_f (by omega)]; done))
        · skip
          refine pw_iload r_12_compared_35 rfl ?_
          refine pw_iret r_12_compared_36 rfl (Nat.le_refl _) ⟨rfl, ?_⟩
          exact h2 a1 s1 (EvX_lev (by decide) q1 (EvX_end (by omega))) (by omega) (by omega)
set_option maxRecDepth 10000 in
theorem sp_X12_sums_s {l : Launch} {w : Wo} (nR : Nat) (ih0 : ∀ {d : Nat} {G : PH} {P : Option PV → PH → Prop} {o n a bs : Int} {b e : Int → Int}, (10 * (8 - o) + 4 < (nR : Int)) → (∀ j, 0 ≤ j → j < n → b j = if bs < 0 then gA G 228 0 j else gA G 229 0 (bs + j)) → ((gF G 12 0 44) = bs) → (bs ≤ 3040) → ((gF G 12 0 46) = n) → (0 ≤ n ∧ n ≤ 160) → ((gF G 12 0 45) = a) → (0 ≤ a ∧ a ≤ n) → ((gF G 12 0 47) < 0) → (0 ≤ o ∧ o ≤ 8) → ((gF G 12 0 48) = o) → (∀ j, 0 ≤ j → j < 9 → (gA G 235 0 (j)) = e j) → (∀ f v x, EvX b n 4 o a none (.inl f) → a ≤ f → f ≤ n → o ≤ x → x ≤ 8 → P (some (vI v)) (sF (sF (sF G 12 0 45 f) 12 0 48 x) 12 0 47 f)) → (∀ a1 s1, EvX b n 4 o a none (.inr (a1, s1)) → a ≤ a1 → a1 ≤ n → P (some (vI (s1 e))) (sF (sF G 12 0 45 a1) 12 0 48 o)) → PW l w M_X12_product (d + nR + 2) 0 [some (vR 12 (0)), none, none, none] [] G P) : ∀ {d : Nat} {G : PH} {P : Option PV → PH → Prop} {o n a bs : Int} {b e : Int → Int}, (10 * (8 - o) + 5 < ((nR + 1) : Int)) → (∀ j, 0 ≤ j → j < n → b j = if bs < 0 then gA G 228 0 j else gA G 229 0 (bs + j)) → ((gF G 12 0 44) = bs) → (bs ≤ 3040) → ((gF G 12 0 46) = n) → (0 ≤ n ∧ n ≤ 160) → ((gF G 12 0 45) = a) → (0 ≤ a ∧ a ≤ n) → ((gF G 12 0 47) < 0) → (0 ≤ o ∧ o ≤ 8) → ((gF G 12 0 48) = o) → (∀ j, 0 ≤ j → j < 9 → (gA G 235 0 (j)) = e j) → (∀ f v x, EvX b n 3 o a none (.inl f) → a ≤ f → f ≤ n → o ≤ x → x ≤ 8 → P (some (vI v)) (sF (sF (sF G 12 0 45 f) 12 0 48 x) 12 0 47 f)) → (∀ a1 s1, EvX b n 3 o a none (.inr (a1, s1)) → a ≤ a1 → a1 ≤ n → P (some (vI (s1 e))) (sF (sF G 12 0 45 a1) 12 0 48 o)) → PW l w M_X12_sums (d + (nR + 1) + 2) 0 [some (vR 12 (0)), none, none, none] [] G P := by
  intro d G P o n a bs b e hM hb hbs hba hn hnn ha haa hf ho hop hve h1 h2
  rw [show d + (nR + 1) + 2 = d + nR + 3 by omega]
  refine pw_aload r_12_sums_0 rfl ?_
  refine pw_callV (av := []) (st := []) (ls0 := [some (vR 12 (0)), none, none, none]) r_12_sums_1 rfl rfl rfl (Nat.le_refl _) ?_
  refine ih0 (d := d) (o := o) (n := n) (a := a) (bs := bs) (b := b) (e := e) (by omega) (by exact hb) (by first | exact hbs | (simp (disch := decide) only [gF_sF]; first | done | exact hbs | omega | (simp; first | done | omega))) (by first | assumption | exact hba | omega) (by first | exact hn | (simp (disch := decide) only [gF_sF]; first | done | exact hn | omega | (simp; first | done | omega))) (by first | assumption | exact hnn | omega) (by first | exact ha | rfl | (simp (disch := decide) only [gF_sF]; first | done | omega | (simp; first | done | omega))) (by first | assumption | exact haa | omega) (by first | exact hf | (simp (disch := decide) only [gF_sF]; first | done | exact hf | omega | (simp; first | done | omega))) (by first | assumption | exact ho | omega) (by first | exact hop | (simp (disch := decide) only [gF_sF]; first | done | exact hop | omega | (simp; first | done | omega))) (by exact hve) ?_ ?_
  · skip
    intro f1 v1 x1 q1 q2 q3 q4 q5
    have hF : EvX b n 3 o a none (.inl f1) := EvX_levF (by decide) q1
    refine pw_istore (ls' := [some (vR 12 (0)), some (vI (v1)), none, none]) r_12_sums_4 rfl rfl ?_
    refine pw_aload r_12_sums_5 rfl ?_
    refine pw_getIv (v := f1) r_12_sums_6 fs_12_47 (by decide) (by first | rfl | simp [gF_sF, gF_sA, gF_uA, gF_sD, gA_sF, gA_sA, gA_uA, gA_sD, gD_sF, gD_sA, gD_uA, gD_sD]) ?_
    refine pw_if_ge r_12_sums_9 (fun h09 => ?_) (fun h09 => absurd h09 (by omega))
    refine pw_iload r_12_sums_77 rfl ?_
    refine pw_iret r_12_sums_78 rfl (Nat.le_refl _) ⟨rfl, ?_⟩
    exact h1 f1 _ x1 hF (by omega) (by omega) q4 q5
  · skip
    intro a1 s1 q1 q2 q3
    refine pw_istore (ls' := [some (vR 12 (0)), some (vI (s1 e)), none, none]) r_12_sums_4 rfl rfl ?_
    have L5 : ∀ (nF : Nat) (p v : Int) (s : Sem), (hp : a ≤ p ∧ p ≤ n) → (hv : v = s e) → (hK : ∀ res, EvX b n 3 o p (some s) res → EvX b n 3 o a none res) → (n - p).toNat < nF → PW l w M_X12_sums (d + nR + 3) 5 [some (vR 12 (0)), some (vI (v)), none, none] [] (sF (sF G 12 (0) 45 (p)) 12 (0) 48 (o)) P := by
      intro nF
      induction nF with
      | zero => intro _ _ _ _ _ _ hM; exact absurd hM (Nat.not_lt_zero _)
      | succ nF ih5 =>
        intro p v s hp hv hK hM5
        have hbp := byt_sgn b n p
        have hrk := rk_iff (sgn b n p)
        refine pw_aload r_12_sums_5 rfl ?_
        refine pw_getIv (v := gF G 12 (0) 47) r_12_sums_6 fs_12_47 (by decide) (by first | rfl | simp [gF_sF, gF_sA, gF_uA, gF_sD, gA_sF, gA_sA, gA_uA, gA_sD, gD_sF, gD_sA, gD_uA, gD_sD]) ?_
        refine pw_if_ge r_12_sums_9 (fun h09 => absurd h09 (by omega)) (fun h09 => ?_)
        refine pw_aload r_12_sums_12 rfl ?_
        refine pw_callV (av := []) (st := []) (ls0 := [some (vR 12 (0))]) r_12_sums_13 rfl rfl rfl (Nat.le_refl _) ?_
        refine byO (n := n) (a := p) (bs := bs) (b := b) (by exact hb) (by first | exact hbs | (simp (disch := decide) only [gF_sF]; first | done | exact hbs | omega | (simp; first | done | omega))) (by first | assumption | exact hba | omega) (by first | exact hn | (simp (disch := decide) only [gF_sF]; first | done | exact hn | omega | (simp; first | done | omega))) (by first | assumption | exact hnn | omega) (by first | exact ha | rfl | (simp (disch := decide) only [gF_sF]; first | done | omega | (simp; first | done | omega))) (by first | assumption | exact haa | omega) ?_
        refine pw_const r_12_sums_16 ?_
        refine pw_icmp_eq r_12_sums_18 (fun h18 => ?_) (fun h18 => ?_)
        · skip
          refine pw_aload r_12_sums_30 rfl ?_
          refine pw_callV (av := []) (st := []) (ls0 := [some (vR 12 (0))]) r_12_sums_31 rfl rfl rfl (Nat.le_refl _) ?_
          refine byO (n := n) (a := p) (bs := bs) (b := b) (by exact hb) (by first | exact hbs | (simp (disch := decide) only [gF_sF]; first | done | exact hbs | omega | (simp; first | done | omega))) (by first | assumption | exact hba | omega) (by first | exact hn | (simp (disch := decide) only [gF_sF]; first | done | exact hn | omega | (simp; first | done | omega))) (by first | assumption | exact hnn | omega) (by first | exact ha | rfl | (simp (disch := decide) only [gF_sF]; first | done | omega | (simp; first | done | omega))) (by first | assumption | exact haa | omega) ?_
          refine pw_const r_12_sums_34 ?_
          refine pw_icmp_ne r_12_sums_36 (fun h36 => ?_) (fun h36 => ?_)
          · skip
            refine pw_const r_12_sums_43 ?_
            refine pw_istore (ls' := [some (vR 12 (0)), some (vI (v)), some (vI (0)), none]) r_12_sums_44 rfl rfl ?_
            refine pw_aload r_12_sums_45 rfl ?_
            refine pw_dup r_12_sums_46 rfl ?_
            refine pw_getIv (v := p) r_12_sums_47 fs_12_45 (by decide) (by first | rfl | simp [gF_sF, gF_sA, gF_uA, gF_sD, gA_sF, gA_sA, gA_uA, gA_sD, gD_sF, gD_sA, gD_uA, gD_sD]) ?_
            refine pw_const r_12_sums_50 ?_
            refine pw_iadd r_12_sums_51 (by omega) ?_
            refine pw_putI r_12_sums_52 (by decide +kernel) fs_12_45 (by decide) ?_
            refine pw_aload r_12_sums_55 rfl ?_
            refine pw_callV (av := []) (st := []) (ls0 := [some (vR 12 (0)), none, none, none]) r_12_sums_56 rfl rfl rfl (Nat.le_refl _) ?_
            refine ih0 (d := d) (o := o) (n := n) (a := (p + 1)) (bs := bs) (b := b) (e := e) (by omega) (by exact hb) (by first | exact hbs | (simp (disch := decide) only [gF_sF]; first | done | exact hbs | omega | (simp; first | done | omega))) (by first | assumption | exact hba | omega) (by first | exact hn | (simp (disch := decide) only [gF_sF]; first | done | exact hn | omega | (simp; first | done | omega))) (by first | assumption | exact hnn | omega) (by first | exact ha | rfl | (simp (disch := decide) only [gF_sF]; first | done | omega | (simp; first | done | omega))) (by first | assumption | exact haa | omega) (by first | exact hf | (simp (disch := decide) only [gF_sF]; first | done | exact hf | omega | (simp; first | done | omega))) (by first | assumption | exact ho | omega) (by first | exact hop | (simp (disch := decide) only [gF_sF]; first | done | exact hop | omega | (simp; first | done | omega))) (by exact hve) ?_ ?_
            · skip
              intro f1 v1 x1 q1 q2 q3 q4 q5
              have hF : EvX b n 3 o a none (.inl f1) := hK _ (EvX_moreF (by omega) q1)
              refine pw_istore (ls' := [some (vR 12 (0)), some (vI (v)), some (vI (0)), some (vI (v1))]) r_12_sums_59 rfl rfl ?_
              refine pw_iload r_12_sums_60 rfl ?_
              refine pw_if_eq r_12_sums_61 (fun h61 => ?_) (fun h61 => absurd h61 (by decide))
              refine pw_iload r_12_sums_70 rfl ?_
              refine pw_iload r_12_sums_71 rfl ?_
              refine pw_isubW r_12_sums_72 ?_
              refine pw_istore (ls' := [some (vR 12 (0)), some (vI (wr (v - v1))), some (vI (0)), some (vI (v1))]) r_12_sums_73 rfl rfl ?_
              refine pw_goto r_12_sums_74 ?_
              refine pw_aload r_12_sums_5 rfl ?_
              refine pw_getIv (v := f1) r_12_sums_6 fs_12_47 (by decide) (by first | rfl | simp [gF_sF, gF_sA, gF_uA, gF_sD, gA_sF, gA_sA, gA_uA, gA_sD, gD_sF, gD_sA, gD_uA, gD_sD]) ?_
              refine pw_if_ge r_12_sums_9 (fun h09 => ?_) (fun h09 => absurd h09 (by omega))
              refine pw_iload r_12_sums_77 rfl ?_
              refine pw_eqG (G' := sF (sF (sF G 12 (0) 45 (f1)) 12 (0) 48 (x1)) 12 (0) 47 (f1)) (by first | rfl | (rw [uA_self]; done) | (rw [sA_uA]; done) | (rw [sA_eq]; done) | (simp (disch := decide) only [sA_uA, sA_uA_ne, uA_abs, uA_abs2, uA_uA]; done) | (simp (disch := decide) only [sA_eq, sA_uA, sA_uA_ne, uA_abs, uA_abs2, uA_uA]; done) | (refine PH_ext (fun _ _ _ => ?_) (fun _ _ _ => ?_) (fun _ _ _ => ?_) <;> simp only [gF_sF, gF_sA, gF_uA, gF_sD, gA_sF, gA_sA, gA_uA, gA_sD, gD_sF, gD_sA, gD_uA, gD_sD] <;> (repeat' split) <;> first | rfl | (exfalso; omega) | simp_all)) ?_
              refine pw_iret r_12_sums_78 rfl (Nat.le_refl _) ⟨rfl, ?_⟩
              exact h1 f1 _ x1 hF (by omega) (by omega) q4 q5
            · skip
              intro a1 s1 q1 q2 q3
              refine pw_istore (ls' := [some (vR 12 (0)), some (vI (v)), some (vI (0)), some (vI (s1 e))]) r_12_sums_59 rfl rfl ?_
              refine pw_iload r_12_sums_60 rfl ?_
              refine pw_if_eq r_12_sums_61 (fun h61 => ?_) (fun h61 => absurd h61 (by decide))
              refine pw_iload r_12_sums_70 rfl ?_
              refine pw_iload r_12_sums_71 rfl ?_
              refine pw_isubW r_12_sums_72 ?_
              refine pw_istore (ls' := [some (vR 12 (0)), some (vI (wr (v - (s1 e)))), some (vI (0)), some (vI (s1 e))]) r_12_sums_73 rfl rfl ?_
              refine pw_goto r_12_sums_74 ?_
              refine pw_weakL (ls' := [some (vR 12 (0)), some (vI (wr (v - (s1 e)))), none, none]) (⟨rfl, ⟨rfl, trivial⟩⟩) ?_
              refine pw_eqG (G' := sF (sF G 12 (0) 45 (a1)) 12 (0) 48 (o)) (by first | rfl | (rw [uA_self]; done) | (rw [sA_uA]; done) | (rw [sA_eq]; done) | (simp (disch := decide) only [sA_uA, sA_uA_ne, uA_abs, uA_abs2, uA_uA]; done) | (simp (disch := decide) only [sA_eq, sA_uA, sA_uA_ne, uA_abs, uA_abs2, uA_uA]; done) | (refine PH_ext (fun _ _ _ => ?_) (fun _ _ _ => ?_) (fun _ _ _ => ?_) <;> simp only [gF_sF, gF_sA, gF_uA, gF_sD, gA_sF, gA_sA, gA_uA, gA_sD, gD_sF, gD_sA, gD_uA, gD_sD] <;> (repeat' split) <;> first | rfl | (exfalso; omega) | simp_all)) ?_
              exact ih5 (a1) (wr (v - (s1 e))) ((fun e0 => wk (sgn b n p) (s e0) (s1 e0))) (by first | assumption | omega) (by show _ = wk (sgn b n p) (s e) (s1 e); first | (rw [wk_43 (by omega), hv]; done) | (rw [wk_45 (by omega), hv]; done)) (fun res hres => hK res (EvX_more (by omega) (by decide) q1 hres)) (by omega)
          · skip
            refine pw_const r_12_sums_39 ?_
            refine pw_goto r_12_sums_40 ?_
            refine pw_istore (ls' := [some (vR 12 (0)), some (vI (v)), some (vI (1)), none]) r_12_sums_44 rfl rfl ?_
            refine pw_aload r_12_sums_45 rfl ?_
            refine pw_dup r_12_sums_46 rfl ?_
            refine pw_getIv (v := p) r_12_sums_47 fs_12_45 (by decide) (by first | rfl | simp [gF_sF, gF_sA, gF_uA, gF_sD, gA_sF, gA_sA, gA_uA, gA_sD, gD_sF, gD_sA, gD_uA, gD_sD]) ?_
            refine pw_const r_12_sums_50 ?_
            refine pw_iadd r_12_sums_51 (by omega) ?_
            refine pw_putI r_12_sums_52 (by decide +kernel) fs_12_45 (by decide) ?_
            refine pw_aload r_12_sums_55 rfl ?_
            refine pw_callV (av := []) (st := []) (ls0 := [some (vR 12 (0)), none, none, none]) r_12_sums_56 rfl rfl rfl (Nat.le_refl _) ?_
            refine ih0 (d := d) (o := o) (n := n) (a := (p + 1)) (bs := bs) (b := b) (e := e) (by omega) (by exact hb) (by first | exact hbs | (simp (disch := decide) only [gF_sF]; first | done | exact hbs | omega | (simp; first | done | omega))) (by first | assumption | exact hba | omega) (by first | exact hn | (simp (disch := decide) only [gF_sF]; first | done | exact hn | omega | (simp; first | done | omega))) (by first | assumption | exact hnn | omega) (by first | exact ha | rfl | (simp (disch := decide) only [gF_sF]; first | done | omega | (simp; first | done | omega))) (by first | assumption | exact haa | omega) (by first | exact hf | (simp (disch := decide) only [gF_sF]; first | done | exact hf | omega | (simp; first | done | omega))) (by first | assumption | exact ho | omega) (by first | exact hop | (simp (disch := decide) only [gF_sF]; first | done | exact hop | omega | (simp; first | done | omega))) (by exact hve) ?_ ?_
            · skip
              intro f1 v1 x1 q1 q2 q3 q4 q5
              have hF : EvX b n 3 o a none (.inl f1) := hK _ (EvX_moreF (by omega) q1)
              refine pw_istore (ls' := [some (vR 12 (0)), some (vI (v)), some (vI (1)), some (vI (v1))]) r_12_sums_59 rfl rfl ?_
              refine pw_iload r_12_sums_60 rfl ?_
              refine pw_if_eq r_12_sums_61 (fun h61 => absurd h61 (by decide)) (fun h61 => ?_)
              refine pw_iload r_12_sums_64 rfl ?_
              refine pw_iload r_12_sums_65 rfl ?_
              refine pw_iaddW r_12_sums_66 ?_
              refine pw_goto r_12_sums_67 ?_
              refine pw_istore (ls' := [some (vR 12 (0)), some (vI (wr (v + v1))), some (vI (1)), some (vI (v1))]) r_12_sums_73 rfl rfl ?_
              refine pw_goto r_12_sums_74 ?_
              refine pw_aload r_12_sums_5 rfl ?_
              refine pw_getIv (v := f1) r_12_sums_6 fs_12_47 (by decide) (by first | rfl | simp [gF_sF, gF_sA, gF_uA, gF_sD, gA_sF, gA_sA, gA_uA, gA_sD, gD_sF, gD_sA, gD_uA, gD_sD]) ?_
              refine pw_if_ge r_12_sums_9 (fun h09 => ?_) (fun h09 => absurd h09 (by omega))
              refine pw_iload r_12_sums_77 rfl ?_
              refine pw_eqG (G' := sF (sF (sF G 12 (0) 45 (f1)) 12 (0) 48 (x1)) 12 (0) 47 (f1)) (by first | rfl | (rw [uA_self]; done) | (rw [sA_uA]; done) | (rw [sA_eq]; done) | (simp (disch := decide) only [sA_uA, sA_uA_ne, uA_abs, uA_abs2, uA_uA]; done) | (simp (disch := decide) only [sA_eq, sA_uA, sA_uA_ne, uA_abs, uA_abs2, uA_uA]; done) | (refine PH_ext (fun _ _ _ => ?_) (fun _ _ _ => ?_) (fun _ _ _ => ?_) <;> simp only [gF_sF, gF_sA, gF_uA, gF_sD, gA_sF, gA_sA, gA_uA, gA_sD, gD_sF, gD_sA, gD_uA, gD_sD] <;> (repeat' split) <;> first | rfl | (exfalso; omega) | simp_all)) ?_
              refine pw_iret r_12_sums_78 rfl (Nat.le_refl _) ⟨rfl, ?_⟩
              exact h1 f1 _ x1 hF (by omega) (by omega) q4 q5
            · skip
              intro a1 s1 q1 q2 q3
              refine pw_istore (ls' := [some (vR 12 (0)), some (vI (v)), some (vI (1)), some (vI (s1 e))]) r_12_sums_59 rfl rfl ?_
              refine pw_iload r_12_sums_60 rfl ?_
              refine pw_if_eq r_12_sums_61 (fun h61 => absurd h61 (by decide)) (fun h61 => ?_)
              refine pw_iload r_12_sums_64 rfl ?_
              refine pw_iload r_12_sums_65 rfl ?_
              refine pw_iaddW r_12_sums_66 ?_
              refine pw_goto r_12_sums_67 ?_
              refine pw_istore (ls' := [some (vR 12 (0)), some (vI (wr (v + (s1 e)))), some (vI (1)), some (vI (s1 e))]) r_12_sums_73 rfl rfl ?_
              refine pw_goto r_12_sums_74 ?_
              refine pw_weakL (ls' := [some (vR 12 (0)), some (vI (wr (v + (s1 e)))), none, none]) (⟨rfl, ⟨rfl, trivial⟩⟩) ?_
              refine pw_eqG (G' := sF (sF G 12 (0) 45 (a1)) 12 (0) 48 (o)) (by first | rfl | (rw [uA_self]; done) | (rw [sA_uA]; done) | (rw [sA_eq]; done) | (simp (disch := decide) only [sA_uA, sA_uA_ne, uA_abs, uA_abs2, uA_uA]; done) | (simp (disch := decide) only [sA_eq, sA_uA, sA_uA_ne, uA_abs, uA_abs2, uA_uA]; done) | (refine PH_ext (fun _ _ _ => ?_) (fun _ _ _ => ?_) (fun _ _ _ => ?_) <;> simp only [gF_sF, gF_sA, gF_uA, gF_sD, gA_sF, gA_sA, gA_uA, gA_sD, gD_sF, gD_sA, gD_uA, gD_sD] <;> (repeat' split) <;> first | rfl | (exfalso; omega) | simp_all)) ?_
              exact ih5 (a1) (wr (v + (s1 e))) ((fun e0 => wk (sgn b n p) (s e0) (s1 e0))) (by first | assumption | omega) (by show _ = wk (sgn b n p) (s e) (s1 e); first | (rw [wk_43 (by omega), hv]; done) | (rw [wk_45 (by omega), hv]; done)) (fun res hres => hK res (EvX_more (by omega) (by decide) q1 hres)) (by omega)
        · skip
          refine pw_aload r_12_sums_21 rfl ?_
          refine pw_callV (av := []) (st := []) (ls0 := [some (vR 12 (0))]) r_12_sums_22 rfl rfl rfl (Nat.le_refl _) ?_
          refine byO (n := n) (a := p) (bs := bs) (b := b) (by exact hb) (by first | exact hbs | (simp (disch := decide) only [gF_sF]; first | done | exact hbs | omega | (simp; first | done | omega))) (by first | assumption | exact hba | omega) (by first | exact hn | (simp (disch := decide) only [gF_sF]; first | done | exact hn | omega | (simp; first | done | omega))) (by first | assumption | exact hnn | omega) (by first | exact ha | rfl | (simp (disch := decide) only [gF_sF]; first | done | omega | (simp; first | done | omega))) (by first | assumption | exact haa | omega) ?_
          refine pw_const r_12_sums_25 ?_
          refine pw_icmp_ne r_12_sums_27 (fun h27 => ?_) (fun h27 => ?_)
          · skip
            refine pw_iload r_12_sums_77 rfl ?_
            refine pw_iret r_12_sums_78 rfl (Nat.le_refl _) ⟨rfl, ?_⟩
            exact pe (h2 p s (hK _ (EvX_end (by omega))) (by omega) (by omega)) hv
          · skip
            refine pw_aload r_12_sums_30 rfl ?_
            refine pw_callV (av := []) (st := []) (ls0 := [some (vR 12 (0))]) r_12_sums_31 rfl rfl rfl (Nat.le_refl _) ?_
            refine byO (n := n) (a := p) (bs := bs) (b := b) (by exact hb) (by first | exact hbs | (simp (disch := decide) only [gF_sF]; first | done | exact hbs | omega | (simp; first | done | omega))) (by first | assumption | exact hba | omega) (by first | exact hn | (simp (disch := decide) only [gF_sF]; first | done | exact hn | omega | (simp; first | done | omega))) (by first | assumption | exact hnn | omega) (by first | exact ha | rfl | (simp (disch := decide) only [gF_sF]; first | done | omega | (simp; first | done | omega))) (by first | assumption | exact haa | omega) ?_
            refine pw_const r_12_sums_34 ?_
            refine pw_icmp_ne r_12_sums_36 (fun h36 => ?_) (fun h36 => ?_)
            · skip
              refine pw_const r_12_sums_43 ?_
              refine pw_istore (ls' := [some (vR 12 (0)), some (vI (v)), some (vI (0)), none]) r_12_sums_44 rfl rfl ?_
              refine pw_aload r_12_sums_45 rfl ?_
              refine pw_dup r_12_sums_46 rfl ?_
              refine pw_getIv (v := p) r_12_sums_47 fs_12_45 (by decide) (by first | rfl | simp [gF_sF, gF_sA, gF_uA, gF_sD, gA_sF, gA_sA, gA_uA, gA_sD, gD_sF, gD_sA, gD_uA, gD_sD]) ?_
              refine pw_const r_12_sums_50 ?_
              refine pw_iadd r_12_sums_51 (by omega) ?_
              refine pw_putI r_12_sums_52 (by decide +kernel) fs_12_45 (by decide) ?_
              refine pw_aload r_12_sums_55 rfl ?_
              refine pw_callV (av := []) (st := []) (ls0 := [some (vR 12 (0)), none, none, none]) r_12_sums_56 rfl rfl rfl (Nat.le_refl _) ?_
              refine ih0 (d := d) (o := o) (n := n) (a := (p + 1)) (bs := bs) (b := b) (e := e) (by omega) (by exact hb) (by first | exact hbs | (simp (disch := decide) only [gF_sF]; first | done | exact hbs | omega | (simp; first | done | omega))) (by first | assumption | exact hba | omega) (by first | exact hn | (simp (disch := decide) only [gF_sF]; first | done | exact hn | omega | (simp; first | done | omega))) (by first | assumption | exact hnn | omega) (by first | exact ha | rfl | (simp (disch := decide) only [gF_sF]; first | done | omega | (simp; first | done | omega))) (by first | assumption | exact haa | omega) (by first | exact hf | (simp (disch := decide) only [gF_sF]; first | done | exact hf | omega | (simp; first | done | omega))) (by first | assumption | exact ho | omega) (by first | exact hop | (simp (disch := decide) only [gF_sF]; first | done | exact hop | omega | (simp; first | done | omega))) (by exact hve) ?_ ?_
              · skip
                intro f1 v1 x1 q1 q2 q3 q4 q5
                have hF : EvX b n 3 o a none (.inl f1) := hK _ (EvX_moreF (by omega) q1)
                refine pw_istore (ls' := [some (vR 12 (0)), some (vI (v)), some (vI (0)), some (vI (v1))]) r_12_sums_59 rfl rfl ?_
                refine pw_iload r_12_sums_60 rfl ?_
                refine pw_if_eq r_12_sums_61 (fun h61 => ?_) (fun h61 => absurd h61 (by decide))
                refine pw_iload r_12_sums_70 rfl ?_
                refine pw_iload r_12_sums_71 rfl ?_
                refine pw_isubW r_12_sums_72 ?_
                refine pw_istore (ls' := [some (vR 12 (0)), some (vI (wr (v - v1))), some (vI (0)), some (vI (v1))]) r_12_sums_73 rfl rfl ?_
                refine pw_goto r_12_sums_74 ?_
                refine pw_aload r_12_sums_5 rfl ?_
                refine pw_getIv (v := f1) r_12_sums_6 fs_12_47 (by decide) (by first | rfl | simp [gF_sF, gF_sA, gF_uA, gF_sD, gA_sF, gA_sA, gA_uA, gA_sD, gD_sF, gD_sA, gD_uA, gD_sD]) ?_
                refine pw_if_ge r_12_sums_9 (fun h09 => ?_) (fun h09 => absurd h09 (by omega))
                refine pw_iload r_12_sums_77 rfl ?_
                refine pw_eqG (G' := sF (sF (sF G 12 (0) 45 (f1)) 12 (0) 48 (x1)) 12 (0) 47 (f1)) (by first | rfl | (rw [uA_self]; done) | (rw [sA_uA]; done) | (rw [sA_eq]; done) | (simp (disch := decide) only [sA_uA, sA_uA_ne, uA_abs, uA_abs2, uA_uA]; done) | (simp (disch := decide) only [sA_eq, sA_uA, sA_uA_ne, uA_abs, uA_abs2, uA_uA]; done) | (refine PH_ext (fun _ _ _ => ?_) (fun _ _ _ => ?_) (fun _ _ _ => ?_) <;> simp only [gF_sF, gF_sA, gF_uA, gF_sD, gA_sF, gA_sA, gA_uA, gA_sD, gD_sF, gD_sA, gD_uA, gD_sD] <;> (repeat' split) <;> first | rfl | (exfalso; omega) | simp_all)) ?_
                refine pw_iret r_12_sums_78 rfl (Nat.le_refl _) ⟨rfl, ?_⟩
                exact h1 f1 _ x1 hF (by omega) (by omega) q4 q5
              · skip
                intro a1 s1 q1 q2 q3
                refine pw_istore (ls' := [some (vR 12 (0)), some (vI (v)), some (vI (0)), some (vI (s1 e))]) r_12_sums_59 rfl rfl ?_
                refine pw_iload r_12_sums_60 rfl ?_
                refine pw_if_eq r_12_sums_61 (fun h61 => ?_) (fun h61 => absurd h61 (by decide))
                refine pw_iload r_12_sums_70 rfl ?_
                refine pw_iload r_12_sums_71 rfl ?_
                refine pw_isubW r_12_sums_72 ?_
                refine pw_istore (ls' := [some (vR 12 (0)), some (vI (wr (v - (s1 e)))), some (vI (0)), some (vI (s1 e))]) r_12_sums_73 rfl rfl ?_
                refine pw_goto r_12_sums_74 ?_
                refine pw_weakL (ls' := [some (vR 12 (0)), some (vI (wr (v - (s1 e)))), none, none]) (⟨rfl, ⟨rfl, trivial⟩⟩) ?_
                refine pw_eqG (G' := sF (sF G 12 (0) 45 (a1)) 12 (0) 48 (o)) (by first | rfl | (rw [uA_self]; done) | (rw [sA_uA]; done) | (rw [sA_eq]; done) | (simp (disch := decide) only [sA_uA, sA_uA_ne, uA_abs, uA_abs2, uA_uA]; done) | (simp (disch := decide) only [sA_eq, sA_uA, sA_uA_ne, uA_abs, uA_abs2, uA_uA]; done) | (refine PH_ext (fun _ _ _ => ?_) (fun _ _ _ => ?_) (fun _ _ _ => ?_) <;> simp only [gF_sF, gF_sA, gF_uA, gF_sD, gA_sF, gA_sA, gA_uA, gA_sD, gD_sF, gD_sA, gD_uA, gD_sD] <;> (repeat' split) <;> first | rfl | (exfalso; omega) | simp_all)) ?_
                exact ih5 (a1) (wr (v - (s1 e))) ((fun e0 => wk (sgn b n p) (s e0) (s1 e0))) (by first | assumption | omega) (by show _ = wk (sgn b n p) (s e) (s1 e); first | (rw [wk_43 (by omega), hv]; done) | (rw [wk_45 (by omega), hv]; done)) (fun res hres => hK res (EvX_more (by omega) (by decide) q1 hres)) (by omega)
            · skip
              refine pw_const r_12_sums_39 ?_
              refine pw_goto r_12_sums_40 ?_
              refine pw_istore (ls' := [some (vR 12 (0)), some (vI (v)), some (vI (1)), none]) r_12_sums_44 rfl rfl ?_
              refine pw_aload r_12_sums_45 rfl ?_
              refine pw_dup r_12_sums_46 rfl ?_
              refine pw_getIv (v := p) r_12_sums_47 fs_12_45 (by decide) (by first | rfl | simp [gF_sF, gF_sA, gF_uA, gF_sD, gA_sF, gA_sA, gA_uA, gA_sD, gD_sF, gD_sA, gD_uA, gD_sD]) ?_
              refine pw_const r_12_sums_50 ?_
              refine pw_iadd r_12_sums_51 (by omega) ?_
              refine pw_putI r_12_sums_52 (by decide +kernel) fs_12_45 (by decide) ?_
              refine pw_aload r_12_sums_55 rfl ?_
              refine pw_callV (av := []) (st := []) (ls0 := [some (vR 12 (0)), none, none, none]) r_12_sums_56 rfl rfl rfl (Nat.le_refl _) ?_
              refine ih0 (d := d) (o := o) (n := n) (a := (p + 1)) (bs := bs) (b := b) (e := e) (by omega) (by exact hb) (by first | exact hbs | (simp (disch := decide) only [gF_sF]; first | done | exact hbs | omega | (simp; first | done | omega))) (by first | assumption | exact hba | omega) (by first | exact hn | (simp (disch := decide) only [gF_sF]; first | done | exact hn | omega | (simp; first | done | omega))) (by first | assumption | exact hnn | omega) (by first | exact ha | rfl | (simp (disch := decide) only [gF_sF]; first | done | omega | (simp; first | done | omega))) (by first | assumption | exact haa | omega) (by first | exact hf | (simp (disch := decide) only [gF_sF]; first | done | exact hf | omega | (simp; first | done | omega))) (by first | assumption | exact ho | omega) (by first | exact hop | (simp (disch := decide) only [gF_sF]; first | done | exact hop | omega | (simp; first | done | omega))) (by exact hve) ?_ ?_
              · skip
                intro f1 v1 x1 q1 q2 q3 q4 q5
                have hF : EvX b n 3 o a none (.inl f1) := hK _ (EvX_moreF (by omega) q1)
                refine pw_istore (ls' := [some (vR 12 (0)), some (vI (v)), some (vI (1)), some (vI (v1))]) r_12_sums_59 rfl rfl ?_
                refine pw_iload r_12_sums_60 rfl ?_
                refine pw_if_eq r_12_sums_61 (fun h61 => absurd h61 (by decide)) (fun h61 => ?_)
                refine pw_iload r_12_sums_64 rfl ?_
                refine pw_iload r_12_sums_65 rfl ?_
                refine pw_iaddW r_12_sums_66 ?_
                refine pw_goto r_12_sums_67 ?_
                refine pw_istore (ls' := [some (vR 12 (0)), some (vI (wr (v + v1))), some (vI (1)), some (vI (v1))]) r_12_sums_73 rfl rfl ?_
                refine pw_goto r_12_sums_74 ?_
                refine pw_aload r_12_sums_5 rfl ?_
                refine pw_getIv (v := f1) r_12_sums_6 fs_12_47 (by decide) (by first | rfl | simp [gF_sF, gF_sA, gF_uA, gF_sD, gA_sF, gA_sA, gA_uA, gA_sD, gD_sF, gD_sA, gD_uA, gD_sD]) ?_
                refine pw_if_ge r_12_sums_9 (fun h09 => ?_) (fun h09 => absurd h09 (by omega))
                refine pw_iload r_12_sums_77 rfl ?_
                refine pw_eqG (G' := sF (sF (sF G 12 (0) 45 (f1)) 12 (0) 48 (x1)) 12 (0) 47 (f1)) (by first | rfl | (rw [uA_self]; done) | (rw [sA_uA]; done) | (rw [sA_eq]; done) | (simp (disch := decide) only [sA_uA, sA_uA_ne, uA_abs, uA_abs2, uA_uA]; done) | (simp (disch := decide) only [sA_eq, sA_uA, sA_uA_ne, uA_abs, uA_abs2, uA_uA]; done) | (refine PH_ext (fun _ _ _ => ?_) (fun _ _ _ => ?_) (fun _ _ _ => ?_) <;> simp only [gF_sF, gF_sA, gF_uA, gF_sD, gA_sF, gA_sA, gA_uA, gA_sD, gD_sF, gD_sA, gD_uA, gD_sD] <;> (repeat' split) <;> first | rfl | (exfalso; omega) | simp_all)) ?_
                refine pw_iret r_12_sums_78 rfl (Nat.le_refl _) ⟨rfl, ?_⟩
                exact h1 f1 _ x1 hF (by omega) (by omega) q4 q5
              · skip
                intro a1 s1 q1 q2 q3
                refine pw_istore (ls' := [some (vR 12 (0)), some (vI (v)), some (vI (1)), some (vI (s1 e))]) r_12_sums_59 rfl rfl ?_
                refine pw_iload r_12_sums_60 rfl ?_
                refine pw_if_eq r_12_sums_61 (fun h61 => absurd h61 (by decide)) (fun h61 => ?_)
                refine pw_iload r_12_sums_64 rfl ?_
                refine pw_iload r_12_sums_65 rfl ?_
                refine pw_iaddW r_12_sums_66 ?_
                refine pw_goto r_12_sums_67 ?_
                refine pw_istore (ls' := [some (vR 12 (0)), some (vI (wr (v + (s1 e)))), some (vI (1)), some (vI (s1 e))]) r_12_sums_73 rfl rfl ?_
                refine pw_goto r_12_sums_74 ?_
                refine pw_weakL (ls' := [some (vR 12 (0)), some (vI (wr (v + (s1 e)))), none, none]) (⟨rfl, ⟨rfl, trivial⟩⟩) ?_
                refine pw_eqG (G' := sF (sF G 12 (0) 45 (a1)) 12 (0) 48 (o)) (by first | rfl | (rw [uA_self]; done) | (rw [sA_uA]; done) | (rw [sA_eq]; done) | (simp (disch := decide) only [sA_uA, sA_uA_ne, uA_abs, uA_abs2, uA_uA]; done) | (simp (disch := decide) only [sA_eq, sA_uA, sA_uA_ne, uA_abs, uA_abs2, uA_uA]; done) | (refine PH_ext (fun _ _ _ => ?_) (fun _ _ _ => ?_) (fun _ _ _ => ?_) <;> simp only [gF_sF, gF_sA, gF_uA, gF_sD, gA_sF, gA_sA, gA_uA, gA_sD, gD_sF, gD_sA, gD_uA, gD_sD] <;> (repeat' split) <;> first | rfl | (exfalso; omega) | simp_all)) ?_
                exact ih5 (a1) (wr (v + (s1 e))) ((fun e0 => wk (sgn b n p) (s e0) (s1 e0))) (by first | assumption | omega) (by show _ = wk (sgn b n p) (s e) (s1 e); first | (rw [wk_43 (by omega), hv]; done) | (rw [wk_45 (by omega), hv]; done)) (fun res hres => hK res (EvX_more (by omega) (by decide) q1 hres)) (by omega)
    exact L5 _ (a1) (s1 e) (s1) (by first | assumption | omega) (rfl) (fun res hres => EvX_lev (by decide) q1 hres) (Nat.lt_succ_self _)
set_option maxRecDepth 10000 in
theorem sp_X12_product_s {l : Launch} {w : Wo} (nR : Nat) (ih0 : ∀ {d : Nat} {G : PH} {P : Option PV → PH → Prop} {o n a bs : Int} {b e : Int → Int}, (10 * (8 - o) + 3 < (nR : Int)) → (∀ j, 0 ≤ j → j < n → b j = if bs < 0 then gA G 228 0 j else gA G 229 0 (bs + j)) → ((gF G 12 0 44) = bs) → (bs ≤ 3040) → ((gF G 12 0 46) = n) → (0 ≤ n ∧ n ≤ 160) → ((gF G 12 0 45) = a) → (0 ≤ a ∧ a ≤ n) → ((gF G 12 0 47) < 0) → (0 ≤ o ∧ o ≤ 8) → ((gF G 12 0 48) = o) → (∀ j, 0 ≤ j → j < 9 → (gA G 235 0 (j)) = e j) → (∀ f v x, EvX b n 5 o a none (.inl f) → a ≤ f → f ≤ n → o ≤ x → x ≤ 8 → P (some (vI v)) (sF (sF (sF G 12 0 45 f) 12 0 48 x) 12 0 47 f)) → (∀ a1 s1, EvX b n 5 o a none (.inr (a1, s1)) → a ≤ a1 → a1 ≤ n → P (some (vI (s1 e))) (sF (sF G 12 0 45 a1) 12 0 48 o)) → PW l w M_X12_one (d + nR + 2) 0 [some (vR 12 (0)), none, none, none, none] [] G P) : ∀ {d : Nat} {G : PH} {P : Option PV → PH → Prop} {o n a bs : Int} {b e : Int → Int}, (10 * (8 - o) + 4 < ((nR + 1) : Int)) → (∀ j, 0 ≤ j → j < n → b j = if bs < 0 then gA G 228 0 j else gA G 229 0 (bs + j)) → ((gF G 12 0 44) = bs) → (bs ≤ 3040) → ((gF G 12 0 46) = n) → (0 ≤ n ∧ n ≤ 160) → ((gF G 12 0 45) = a) → (0 ≤ a ∧ a ≤ n) → ((gF G 12 0 47) < 0) → (0 ≤ o ∧ o ≤ 8) → ((gF G 12 0 48) = o) → (∀ j, 0 ≤ j → j < 9 → (gA G 235 0 (j)) = e j) → (∀ f v x, EvX b n 4 o a none (.inl f) → a ≤ f → f ≤ n → o ≤ x → x ≤ 8 → P (some (vI v)) (sF (sF (sF G 12 0 45 f) 12 0 48 x) 12 0 47 f)) → (∀ a1 s1, EvX b n 4 o a none (.inr (a1, s1)) → a ≤ a1 → a1 ≤ n → P (some (vI (s1 e))) (sF (sF G 12 0 45 a1) 12 0 48 o)) → PW l w M_X12_product (d + (nR + 1) + 2) 0 [some (vR 12 (0)), none, none, none] [] G P := by
  intro d G P o n a bs b e hM hb hbs hba hn hnn ha haa hf ho hop hve h1 h2
  rw [show d + (nR + 1) + 2 = d + nR + 3 by omega]
  refine pw_aload r_12_product_0 rfl ?_
  refine pw_callV (av := []) (st := []) (ls0 := [some (vR 12 (0)), none, none, none, none]) r_12_product_1 rfl rfl rfl (Nat.le_refl _) ?_
  refine ih0 (d := d) (o := o) (n := n) (a := a) (bs := bs) (b := b) (e := e) (by omega) (by exact hb) (by first | exact hbs | (simp (disch := decide) only [gF_sF]; first | done | exact hbs | omega | (simp; first | done | omega))) (by first | assumption | exact hba | omega) (by first | exact hn | (simp (disch := decide) only [gF_sF]; first | done | exact hn | omega | (simp; first | done | omega))) (by first | assumption | exact hnn | omega) (by first | exact ha | rfl | (simp (disch := decide) only [gF_sF]; first | done | omega | (simp; first | done | omega))) (by first | assumption | exact haa | omega) (by first | exact hf | (simp (disch := decide) only [gF_sF]; first | done | exact hf | omega | (simp; first | done | omega))) (by first | assumption | exact ho | omega) (by first | exact hop | (simp (disch := decide) only [gF_sF]; first | done | exact hop | omega | (simp; first | done | omega))) (by exact hve) ?_ ?_
  · skip
    intro f1 v1 x1 q1 q2 q3 q4 q5
    have hF : EvX b n 4 o a none (.inl f1) := EvX_levF (by decide) q1
    refine pw_istore (ls' := [some (vR 12 (0)), some (vI (v1)), none, none]) r_12_product_4 rfl rfl ?_
    refine pw_aload r_12_product_5 rfl ?_
    refine pw_getIv (v := f1) r_12_product_6 fs_12_47 (by decide) (by first | rfl | simp [gF_sF, gF_sA, gF_uA, gF_sD, gA_sF, gA_sA, gA_uA, gA_sD, gD_sF, gD_sA, gD_uA, gD_sD]) ?_
    refine pw_if_ge r_12_product_9 (fun h09 => ?_) (fun h09 => absurd h09 (by omega))
    refine pw_iload r_12_product_85 rfl ?_
    refine pw_iret r_12_product_86 rfl (Nat.le_refl _) ⟨rfl, ?_⟩
    exact h1 f1 _ x1 hF (by omega) (by omega) q4 q5
  · skip
    intro a1 s1 q1 q2 q3
    refine pw_istore (ls' := [some (vR 12 (0)), some (vI (s1 e)), none, none]) r_12_product_4 rfl rfl ?_
    have L5 : ∀ (nF : Nat) (p v : Int) (s : Sem), (hp : a ≤ p ∧ p ≤ n) → (hv : v = s e) → (hK : ∀ res, EvX b n 4 o p (some s) res → EvX b n 4 o a none res) → (n - p).toNat < nF → PW l w M_X12_product (d + nR + 3) 5 [some (vR 12 (0)), some (vI (v)), none, none] [] (sF (sF G 12 (0) 45 (p)) 12 (0) 48 (o)) P := by
      intro nF
      induction nF with
      | zero => intro _ _ _ _ _ _ hM; exact absurd hM (Nat.not_lt_zero _)
      | succ nF ih5 =>
        intro p v s hp hv hK hM5
        have hbp := byt_sgn b n p
        have hrk := rk_iff (sgn b n p)
        refine pw_aload r_12_product_5 rfl ?_
        refine pw_getIv (v := gF G 12 (0) 47) r_12_product_6 fs_12_47 (by decide) (by first | rfl | simp [gF_sF, gF_sA, gF_uA, gF_sD, gA_sF, gA_sA, gA_uA, gA_sD, gD_sF, gD_sA, gD_uA, gD_sD]) ?_
        refine pw_if_ge r_12_product_9 (fun h09 => absurd h09 (by omega)) (fun h09 => ?_)
        refine pw_aload r_12_product_12 rfl ?_
        refine pw_callV (av := []) (st := []) (ls0 := [some (vR 12 (0))]) r_12_product_13 rfl rfl rfl (Nat.le_refl _) ?_
        refine byO (n := n) (a := p) (bs := bs) (b := b) (by exact hb) (by first | exact hbs | (simp (disch := decide) only [gF_sF]; first | done | exact hbs | omega | (simp; first | done | omega))) (by first | assumption | exact hba | omega) (by first | exact hn | (simp (disch := decide) only [gF_sF]; first | done | exact hn | omega | (simp; first | done | omega))) (by first | assumption | exact hnn | omega) (by first | exact ha | rfl | (simp (disch := decide) only [gF_sF]; first | done | omega | (simp; first | done | omega))) (by first | assumption | exact haa | omega) ?_
        refine pw_const r_12_product_16 ?_
        refine pw_icmp_eq r_12_product_18 (fun h18 => ?_) (fun h18 => ?_)
        · skip
          refine pw_aload r_12_product_30 rfl ?_
          refine pw_callV (av := []) (st := []) (ls0 := [some (vR 12 (0))]) r_12_product_31 rfl rfl rfl (Nat.le_refl _) ?_
          refine byO (n := n) (a := p) (bs := bs) (b := b) (by exact hb) (by first | exact hbs | (simp (disch := decide) only [gF_sF]; first | done | exact hbs | omega | (simp; first | done | omega))) (by first | assumption | exact hba | omega) (by first | exact hn | (simp (disch := decide) only [gF_sF]; first | done | exact hn | omega | (simp; first | done | omega))) (by first | assumption | exact hnn | omega) (by first | exact ha | rfl | (simp (disch := decide) only [gF_sF]; first | done | omega | (simp; first | done | omega))) (by first | assumption | exact haa | omega) ?_
          refine pw_const r_12_product_34 ?_
          refine pw_icmp_ne r_12_product_36 (fun h36 => ?_) (fun h36 => ?_)
          · skip
            refine pw_const r_12_product_43 ?_
            refine pw_istore (ls' := [some (vR 12 (0)), some (vI (v)), some (vI (0)), none]) r_12_product_44 rfl rfl ?_
            refine pw_aload r_12_product_45 rfl ?_
            refine pw_dup r_12_product_46 rfl ?_
            refine pw_getIv (v := p) r_12_product_47 fs_12_45 (by decide) (by first | rfl | simp [gF_sF, gF_sA, gF_uA, gF_sD, gA_sF, gA_sA, gA_uA, gA_sD, gD_sF, gD_sA, gD_uA, gD_sD]) ?_
            refine pw_const r_12_product_50 ?_
            refine pw_iadd r_12_product_51 (by omega) ?_
            refine pw_putI r_12_product_52 (by decide +kernel) fs_12_45 (by decide) ?_
            refine pw_aload r_12_product_55 rfl ?_
            refine pw_callV (av := []) (st := []) (ls0 := [some (vR 12 (0)), none, none, none, none]) r_12_product_56 rfl rfl rfl (Nat.le_refl _) ?_
            refine ih0 (d := d) (o := o) (n := n) (a := (p + 1)) (bs := bs) (b := b) (e := e) (by omega) (by exact hb) (by first | exact hbs | (simp (disch := decide) only [gF_sF]; first | done | exact hbs | omega | (simp; first | done | omega))) (by first | assumption | exact hba | omega) (by first | exact hn | (simp (disch := decide) only [gF_sF]; first | done | exact hn | omega | (simp; first | done | omega))) (by first | assumption | exact hnn | omega) (by first | exact ha | rfl | (simp (disch := decide) only [gF_sF]; first | done | omega | (simp; first | done | omega))) (by first | assumption | exact haa | omega) (by first | exact hf | (simp (disch := decide) only [gF_sF]; first | done | exact hf | omega | (simp; first | done | omega))) (by first | assumption | exact ho | omega) (by first | exact hop | (simp (disch := decide) only [gF_sF]; first | done | exact hop | omega | (simp; first | done | omega))) (by exact hve) ?_ ?_
            · skip
              intro f1 v1 x1 q1 q2 q3 q4 q5
              have hF : EvX b n 4 o a none (.inl f1) := hK _ (EvX_moreF (by omega) q1)
              refine pw_istore (ls' := [some (vR 12 (0)), some (vI (v)), some (vI (0)), some (vI (v1))]) r_12_product_59 rfl rfl ?_
              refine pw_iload r_12_product_60 rfl ?_
              refine pw_if_eq r_12_product_61 (fun h61 => ?_) (fun h61 => absurd h61 (by decide))
              refine pw_iload r_12_product_70 rfl ?_
              refine pw_if_ne r_12_product_71 (fun h71 => ?_) (fun h71 => ?_)
              · skip
                refine pw_iload r_12_product_78 rfl ?_
                refine pw_iload r_12_product_79 rfl ?_
                refine pw_idiv r_12_product_80 (by omega) ?_
                refine pw_istore (ls' := [some (vR 12 (0)), some (vI (pDiv (v) (v1))), some (vI (0)), some (vI (v1))]) r_12_product_81 rfl rfl ?_
                refine pw_goto r_12_product_82 ?_
                refine pw_aload r_12_product_5 rfl ?_
                refine pw_getIv (v := f1) r_12_product_6 fs_12_47 (by decide) (by first | rfl | simp [gF_sF, gF_sA, gF_uA, gF_sD, gA_sF, gA_sA, gA_uA, gA_sD, gD_sF, gD_sA, gD_uA, gD_sD]) ?_
                refine pw_if_ge r_12_product_9 (fun h09 => ?_) (fun h09 => absurd h09 (by omega))
                refine pw_iload r_12_product_85 rfl ?_
                refine pw_eqG (G' := sF (sF (sF G 12 (0) 45 (f1)) 12 (0) 48 (x1)) 12 (0) 47 (f1)) (by first | rfl | (rw [uA_self]; done) | (rw [sA_uA]; done) | (rw [sA_eq]; done) | (simp (disch := decide) only [sA_uA, sA_uA_ne, uA_abs, uA_abs2, uA_uA]; done) | (simp (disch := decide) only [sA_eq, sA_uA, sA_uA_ne, uA_abs, uA_abs2, uA_uA]; done) | (refine PH_ext (fun _ _ _ => ?_) (fun _ _ _ => ?_) (fun _ _ _ => ?_) <;> simp only [gF_sF, gF_sA, gF_uA, gF_sD, gA_sF, gA_sA, gA_uA, gA_sD, gD_sF, gD_sA, gD_uA, gD_sD] <;> (repeat' split) <;> first | rfl | (exfalso; omega) | simp_all)) ?_
                refine pw_iret r_12_product_86 rfl (Nat.le_refl _) ⟨rfl, ?_⟩
                exact h1 f1 _ x1 hF (by omega) (by omega) q4 q5
              · skip
                refine pw_const r_12_product_74 ?_
                refine pw_goto r_12_product_75 ?_
                refine pw_istore (ls' := [some (vR 12 (0)), some (vI (0)), some (vI (0)), some (vI (v1))]) r_12_product_81 rfl rfl ?_
                refine pw_goto r_12_product_82 ?_
                refine pw_aload r_12_product_5 rfl ?_
                refine pw_getIv (v := f1) r_12_product_6 fs_12_47 (by decide) (by first | rfl | simp [gF_sF, gF_sA, gF_uA, gF_sD, gA_sF, gA_sA, gA_uA, gA_sD, gD_sF, gD_sA, gD_uA, gD_sD]) ?_
                refine pw_if_ge r_12_product_9 (fun h09 => ?_) (fun h09 => absurd h09 (by omega))
                refine pw_iload r_12_product_85 rfl ?_
                refine pw_eqG (G' := sF (sF (sF G 12 (0) 45 (f1)) 12 (0) 48 (x1)) 12 (0) 47 (f1)) (by first | rfl | (rw [uA_self]; done) | (rw [sA_uA]; done) | (rw [sA_eq]; done) | (simp (disch := decide) only [sA_uA, sA_uA_ne, uA_abs, uA_abs2, uA_uA]; done) | (simp (disch := decide) only [sA_eq, sA_uA, sA_uA_ne, uA_abs, uA_abs2, uA_uA]; done) | (refine PH_ext (fun _ _ _ => ?_) (fun _ _ _ => ?_) (fun _ _ _ => ?_) <;> simp only [gF_sF, gF_sA, gF_uA, gF_sD, gA_sF, gA_sA, gA_uA, gA_sD, gD_sF, gD_sA, gD_uA, gD_sD] <;> (repeat' split) <;> first | rfl | (exfalso; omega) | simp_all)) ?_
                refine pw_iret r_12_product_86 rfl (Nat.le_refl _) ⟨rfl, ?_⟩
                exact h1 f1 _ x1 hF (by omega) (by omega) q4 q5
            · skip
              intro a1 s1 q1 q2 q3
              refine pw_istore (ls' := [some (vR 12 (0)), some (vI (v)), some (vI (0)), some (vI (s1 e))]) r_12_product_59 rfl rfl ?_
              refine pw_iload r_12_product_60 rfl ?_
              refine pw_if_eq r_12_product_61 (fun h61 => ?_) (fun h61 => absurd h61 (by decide))
              refine pw_iload r_12_product_70 rfl ?_
              refine pw_if_ne r_12_product_71 (fun h71 => ?_) (fun h71 => ?_)
              · skip
                refine pw_iload r_12_product_78 rfl ?_
                refine pw_iload r_12_product_79 rfl ?_
                refine pw_idiv r_12_product_80 (by omega) ?_
                refine pw_istore (ls' := [some (vR 12 (0)), some (vI (pDiv (v) (s1 e))), some (vI (0)), some (vI (s1 e))]) r_12_product_81 rfl rfl ?_
                refine pw_goto r_12_product_82 ?_
                refine pw_weakL (ls' := [some (vR 12 (0)), some (vI (pDiv (v) (s1 e))), none, none]) (⟨rfl, ⟨rfl, trivial⟩⟩) ?_
                refine pw_eqG (G' := sF (sF G 12 (0) 45 (a1)) 12 (0) 48 (o)) (by first | rfl | (rw [uA_self]; done) | (rw [sA_uA]; done) | (rw [sA_eq]; done) | (simp (disch := decide) only [sA_uA, sA_uA_ne, uA_abs, uA_abs2, uA_uA]; done) | (simp (disch := decide) only [sA_eq, sA_uA, sA_uA_ne, uA_abs, uA_abs2, uA_uA]; done) | (refine PH_ext (fun _ _ _ => ?_) (fun _ _ _ => ?_) (fun _ _ _ => ?_) <;> simp only [gF_sF, gF_sA, gF_uA, gF_sD, gA_sF, gA_sA, gA_uA, gA_sD, gD_sF, gD_sA, gD_uA, gD_sD] <;> (repeat' split) <;> first | rfl | (exfalso; omega) | simp_all)) ?_
                exact ih5 (a1) (pDiv (v) (s1 e)) ((fun e0 => wk (sgn b n p) (s e0) (s1 e0))) (by first | assumption | omega) (by show _ = wk (sgn b n p) (s e) (s1 e); first | (rw [wk_42 (by omega), hv]; done) | (rw [wk_47 (by omega), if_pos (by omega)]; done) | (rw [wk_47 (by omega), if_neg (by omega), hv]; done)) (fun res hres => hK res (EvX_more (by omega) (by decide) q1 hres)) (by omega)
              · skip
                refine pw_const r_12_product_74 ?_
                refine pw_goto r_12_product_75 ?_
                refine pw_istore (ls' := [some (vR 12 (0)), some (vI (0)), some (vI (0)), some (vI (s1 e))]) r_12_product_81 rfl rfl ?_
                refine pw_goto r_12_product_82 ?_
                refine pw_weakL (ls' := [some (vR 12 (0)), some (vI (0)), none, none]) (⟨rfl, ⟨rfl, trivial⟩⟩) ?_
                refine pw_eqG (G' := sF (sF G 12 (0) 45 (a1)) 12 (0) 48 (o)) (by first | rfl | (rw [uA_self]; done) | (rw [sA_uA]; done) | (rw [sA_eq]; done) | (simp (disch := decide) only [sA_uA, sA_uA_ne, uA_abs, uA_abs2, uA_uA]; done) | (simp (disch := decide) only [sA_eq, sA_uA, sA_uA_ne, uA_abs, uA_abs2, uA_uA]; done) | (refine PH_ext (fun _ _ _ => ?_) (fun _ _ _ => ?_) (fun _ _ _ => ?_) <;> simp only [gF_sF, gF_sA, gF_uA, gF_sD, gA_sF, gA_sA, gA_uA, gA_sD, gD_sF, gD_sA, gD_uA, gD_sD] <;> (repeat' split) <;> first | rfl | (exfalso; omega) | simp_all)) ?_
                exact ih5 (a1) (0) ((fun e0 => wk (sgn b n p) (s e0) (s1 e0))) (by first | assumption | omega) (by show _ = wk (sgn b n p) (s e) (s1 e); first | (rw [wk_42 (by omega), hv]; done) | (rw [wk_47 (by omega), if_pos (by omega)]; done) | (rw [wk_47 (by omega), if_neg (by omega), hv]; done)) (fun res hres => hK res (EvX_more (by omega) (by decide) q1 hres)) (by omega)
          · skip
            refine pw_const r_12_product_39 ?_
            refine pw_goto r_12_product_40 ?_
            refine pw_istore (ls' := [some (vR 12 (0)), some (vI (v)), some (vI (1)), none]) r_12_product_44 rfl rfl ?_
            refine pw_aload r_12_product_45 rfl ?_
            refine pw_dup r_12_product_46 rfl ?_
            refine pw_getIv (v := p) r_12_product_47 fs_12_45 (by decide) (by first | rfl | simp [gF_sF, gF_sA, gF_uA, gF_sD, gA_sF, gA_sA, gA_uA, gA_sD, gD_sF, gD_sA, gD_uA, gD_sD]) ?_
            refine pw_const r_12_product_50 ?_
            refine pw_iadd r_12_product_51 (by omega) ?_
            refine pw_putI r_12_product_52 (by decide +kernel) fs_12_45 (by decide) ?_
            refine pw_aload r_12_product_55 rfl ?_
            refine pw_callV (av := []) (st := []) (ls0 := [some (vR 12 (0)), none, none, none, none]) r_12_product_56 rfl rfl rfl (Nat.le_refl _) ?_
            refine ih0 (d := d) (o := o) (n := n) (a := (p + 1)) (bs := bs) (b := b) (e := e) (by omega) (by exact hb) (by first | exact hbs | (simp (disch := decide) only [gF_sF]; first | done | exact hbs | omega | (simp; first | done | omega))) (by first | assumption | exact hba | omega) (by first | exact hn | (simp (disch := decide) only [gF_sF]; first | done | exact hn | omega | (simp; first | done | omega))) (by first | assumption | exact hnn | omega) (by first | exact ha | rfl | (simp (disch := decide) only [gF_sF]; first | done | omega | (simp; first | done | omega))) (by first | assumption | exact haa | omega) (by first | exact hf | (simp (disch := decide) only [gF_sF]; first | done | exact hf | omega | (simp; first | done | omega))) (by first | assumption | exact ho | omega) (by first | exact hop | (simp (disch := decide) only [gF_sF]; first | done | exact hop | omega | (simp; first | done | omega))) (by exact hve) ?_ ?_
            · skip
              intro f1 v1 x1 q1 q2 q3 q4 q5
              have hF : EvX b n 4 o a none (.inl f1) := hK _ (EvX_moreF (by omega) q1)
              refine pw_istore (ls' := [some (vR 12 (0)), some (vI (v)), some (vI (1)), some (vI (v1))]) r_12_product_59 rfl rfl ?_
              refine pw_iload r_12_product_60 rfl ?_
              refine pw_if_eq r_12_product_61 (fun h61 => absurd h61 (by decide)) (fun h61 => ?_)
              refine pw_iload r_12_product_64 rfl ?_
              refine pw_iload r_12_product_65 rfl ?_
              refine pw_imulW r_12_product_66 ?_
              refine pw_goto r_12_product_67 ?_
              refine pw_istore (ls' := [some (vR 12 (0)), some (vI (wr (v * v1))), some (vI (1)), some (vI (v1))]) r_12_product_81 rfl rfl ?_
              refine pw_goto r_12_product_82 ?_
              refine pw_aload r_12_product_5 rfl ?_
              refine pw_getIv (v := f1) r_12_product_6 fs_12_47 (by decide) (by first | rfl | simp [gF_sF, gF_sA, gF_uA, gF_sD, gA_sF, gA_sA, gA_uA, gA_sD, gD_sF, gD_sA, gD_uA, gD_sD]) ?_
              refine pw_if_ge r_12_product_9 (fun h09 => ?_) (fun h09 => absurd h09 (by omega))
              refine pw_iload r_12_product_85 rfl ?_
              refine pw_eqG (G' := sF (sF (sF G 12 (0) 45 (f1)) 12 (0) 48 (x1)) 12 (0) 47 (f1)) (by first | rfl | (rw [uA_self]; done) | (rw [sA_uA]; done) | (rw [sA_eq]; done) | (simp (disch := decide) only [sA_uA, sA_uA_ne, uA_abs, uA_abs2, uA_uA]; done) | (simp (disch := decide) only [sA_eq, sA_uA, sA_uA_ne, uA_abs, uA_abs2, uA_uA]; done) | (refine PH_ext (fun _ _ _ => ?_) (fun _ _ _ => ?_) (fun _ _ _ => ?_) <;> simp only [gF_sF, gF_sA, gF_uA, gF_sD, gA_sF, gA_sA, gA_uA, gA_sD, gD_sF, gD_sA, gD_uA, gD_sD] <;> (repeat' split) <;> first | rfl | (exfalso; omega) | simp_all)) ?_
              refine pw_iret r_12_product_86 rfl (Nat.le_refl _) ⟨rfl, ?_⟩
              exact h1 f1 _ x1 hF (by omega) (by omega) q4 q5
            · skip
              intro a1 s1 q1 q2 q3
              refine pw_istore (ls' := [some (vR 12 (0)), some (vI (v)), some (vI (1)), some (vI (s1 e))]) r_12_product_59 rfl rfl ?_
              refine pw_iload r_12_product_60 rfl ?_
              refine pw_if_eq r_12_product_61 (fun h61 => absurd h61 (by decide)) (fun h61 => ?_)
              refine pw_iload r_12_product_64 rfl ?_
              refine pw_iload r_12_product_65 rfl ?_
              refine pw_imulW r_12_product_66 ?_
              refine pw_goto r_12_product_67 ?_
              refine pw_istore (ls' := [some (vR 12 (0)), some (vI (wr (v * (s1 e)))), some (vI (1)), some (vI (s1 e))]) r_12_product_81 rfl rfl ?_
              refine pw_goto r_12_product_82 ?_
              refine pw_weakL (ls' := [some (vR 12 (0)), some (vI (wr (v * (s1 e)))), none, none]) (⟨rfl, ⟨rfl, trivial⟩⟩) ?_
              refine pw_eqG (G' := sF (sF G 12 (0) 45 (a1)) 12 (0) 48 (o)) (by first | rfl | (rw [uA_self]; done) | (rw [sA_uA]; done) | (rw [sA_eq]; done) | (simp (disch := decide) only [sA_uA, sA_uA_ne, uA_abs, uA_abs2, uA_uA]; done) | (simp (disch := decide) only [sA_eq, sA_uA, sA_uA_ne, uA_abs, uA_abs2, uA_uA]; done) | (refine PH_ext (fun _ _ _ => ?_) (fun _ _ _ => ?_) (fun _ _ _ => ?_) <;> simp only [gF_sF, gF_sA, gF_uA, gF_sD, gA_sF, gA_sA, gA_uA, gA_sD, gD_sF, gD_sA, gD_uA, gD_sD] <;> (repeat' split) <;> first | rfl | (exfalso; omega) | simp_all)) ?_
              exact ih5 (a1) (wr (v * (s1 e))) ((fun e0 => wk (sgn b n p) (s e0) (s1 e0))) (by first | assumption | omega) (by show _ = wk (sgn b n p) (s e) (s1 e); first | (rw [wk_42 (by omega), hv]; done) | (rw [wk_47 (by omega), if_pos (by omega)]; done) | (rw [wk_47 (by omega), if_neg (by omega), hv]; done)) (fun res hres => hK res (EvX_more (by omega) (by decide) q1 hres)) (by omega)
        · skip
          refine pw_aload r_12_product_21 rfl ?_
          refine pw_callV (av := []) (st := []) (ls0 := [some (vR 12 (0))]) r_12_product_22 rfl rfl rfl (Nat.le_refl _) ?_
          refine byO (n := n) (a := p) (bs := bs) (b := b) (by exact hb) (by first | exact hbs | (simp (disch := decide) only [gF_sF]; first | done | exact hbs | omega | (simp; first | done | omega))) (by first | assumption | exact hba | omega) (by first | exact hn | (simp (disch := decide) only [gF_sF]; first | done | exact hn | omega | (simp; first | done | omega))) (by first | assumption | exact hnn | omega) (by first | exact ha | rfl | (simp (disch := decide) only [gF_sF]; first | done | omega | (simp; first | done | omega))) (by first | assumption | exact haa | omega) ?_
          refine pw_const r_12_product_25 ?_
          refine pw_icmp_ne r_12_product_27 (fun h27 => ?_) (fun h27 => ?_)
          · skip
            refine pw_iload r_12_product_85 rfl ?_
            refine pw_iret r_12_product_86 rfl (Nat.le_refl _) ⟨rfl, ?_⟩
            exact pe (h2 p s (hK _ (EvX_end (by omega))) (by omega) (by omega)) hv
          · skip
            refine pw_aload r_12_product_30 rfl ?_
            refine pw_callV (av := []) (st := []) (ls0 := [some (vR 12 (0))]) r_12_product_31 rfl rfl rfl (Nat.le_refl _) ?_
            refine byO (n := n) (a := p) (bs := bs) (b := b) (by exact hb) (by first | exact hbs | (simp (disch := decide) only [gF_sF]; first | done | exact hbs | omega | (simp; first | done | omega))) (by first | assumption | exact hba | omega) (by first | exact hn | (simp (disch := decide) only [gF_sF]; first | done | exact hn | omega | (simp; first | done | omega))) (by first | assumption | exact hnn | omega) (by first | exact ha | rfl | (simp (disch := decide) only [gF_sF]; first | done | omega | (simp; first | done | omega))) (by first | assumption | exact haa | omega) ?_
            refine pw_const r_12_product_34 ?_
            refine pw_icmp_ne r_12_product_36 (fun h36 => ?_) (fun h36 => ?_)
            · skip
              refine pw_const r_12_product_43 ?_
              refine pw_istore (ls' := [some (vR 12 (0)), some (vI (v)), some (vI (0)), none]) r_12_product_44 rfl rfl ?_
              refine pw_aload r_12_product_45 rfl ?_
              refine pw_dup r_12_product_46 rfl ?_
              refine pw_getIv (v := p) r_12_product_47 fs_12_45 (by decide) (by first | rfl | simp [gF_sF, gF_sA, gF_uA, gF_sD, gA_sF, gA_sA, gA_uA, gA_sD, gD_sF, gD_sA, gD_uA, gD_sD]) ?_
              refine pw_const r_12_product_50 ?_
              refine pw_iadd r_12_product_51 (by omega) ?_
              refine pw_putI r_12_product_52 (by decide +kernel) fs_12_45 (by decide) ?_
              refine pw_aload r_12_product_55 rfl ?_
              refine pw_callV (av := []) (st := []) (ls0 := [some (vR 12 (0)), none, none, none, none]) r_12_product_56 rfl rfl rfl (Nat.le_refl _) ?_
              refine ih0 (d := d) (o := o) (n := n) (a := (p + 1)) (bs := bs) (b := b) (e := e) (by omega) (by exact hb) (by first | exact hbs | (simp (disch := decide) only [gF_sF]; first | done | exact hbs | omega | (simp; first | done | omega))) (by first | assumption | exact hba | omega) (by first | exact hn | (simp (disch := decide) only [gF_sF]; first | done | exact hn | omega | (simp; first | done | omega))) (by first | assumption | exact hnn | omega) (by first | exact ha | rfl | (simp (disch := decide) only [gF_sF]; first | done | omega | (simp; first | done | omega))) (by first | assumption | exact haa | omega) (by first | exact hf | (simp (disch := decide) only [gF_sF]; first | done | exact hf | omega | (simp; first | done | omega))) (by first | assumption | exact ho | omega) (by first | exact hop | (simp (disch := decide) only [gF_sF]; first | done | exact hop | omega | (simp; first | done | omega))) (by exact hve) ?_ ?_
              · skip
                intro f1 v1 x1 q1 q2 q3 q4 q5
                have hF : EvX b n 4 o a none (.inl f1) := hK _ (EvX_moreF (by omega) q1)
                refine pw_istore (ls' := [some (vR 12 (0)), some (vI (v)), some (vI (0)), some (vI (v1))]) r_12_product_59 rfl rfl ?_
                refine pw_iload r_12_product_60 rfl ?_
                refine pw_if_eq r_12_product_61 (fun h61 => ?_) (fun h61 => absurd h61 (by decide))
                refine pw_iload r_12_product_70 rfl ?_
                refine pw_if_ne r_12_product_71 (fun h71 => ?_) (fun h71 => ?_)
                · skip
                  refine pw_iload r_12_product_78 rfl ?_
                  refine pw_iload r_12_product_79 rfl ?_
                  refine pw_idiv r_12_product_80 (by omega) ?_
                  refine pw_istore (ls' := [some (vR 12 (0)), some (vI (pDiv (v) (v1))), some (vI (0)), some (vI (v1))]) r_12_product_81 rfl rfl ?_
                  refine pw_goto r_12_product_82 ?_
                  refine pw_aload r_12_product_5 rfl ?_
                  refine pw_getIv (v := f1) r_12_product_6 fs_12_47 (by decide) (by first | rfl | simp [gF_sF, gF_sA, gF_uA, gF_sD, gA_sF, gA_sA, gA_uA, gA_sD, gD_sF, gD_sA, gD_uA, gD_sD]) ?_
                  refine pw_if_ge r_12_product_9 (fun h09 => ?_) (fun h09 => absurd h09 (by omega))
                  refine pw_iload r_12_product_85 rfl ?_
                  refine pw_eqG (G' := sF (sF (sF G 12 (0) 45 (f1)) 12 (0) 48 (x1)) 12 (0) 47 (f1)) (by first | rfl | (rw [uA_self]; done) | (rw [sA_uA]; done) | (rw [sA_eq]; done) | (simp (disch := decide) only [sA_uA, sA_uA_ne, uA_abs, uA_abs2, uA_uA]; done) | (simp (disch := decide) only [sA_eq, sA_uA, sA_uA_ne, uA_abs, uA_abs2, uA_uA]; done) | (refine PH_ext (fun _ _ _ => ?_) (fun _ _ _ => ?_) (fun _ _ _ => ?_) <;> simp only [gF_sF, gF_sA, gF_uA, gF_sD, gA_sF, gA_sA, gA_uA, gA_sD, gD_sF, gD_sA, gD_uA, gD_sD] <;> (repeat' split) <;> first | rfl | (exfalso; omega) | simp_all)) ?_
                  refine pw_iret r_12_product_86 rfl (Nat.le_refl _) ⟨rfl, ?_⟩
                  exact h1 f1 _ x1 hF (by omega) (by omega) q4 q5
                · skip
                  refine pw_const r_12_product_74 ?_
                  refine pw_goto r_12_product_75 ?_
                  refine pw_istore (ls' := [some (vR 12 (0)), some (vI (0)), some (vI (0)), some (vI (v1))]) r_12_product_81 rfl rfl ?_
                  refine pw_goto r_12_product_82 ?_
                  refine pw_aload r_12_product_5 rfl ?_
                  refine pw_getIv (v := f1) r_12_product_6 fs_12_47 (by decide) (by first | rfl | simp [gF_sF, gF_sA, gF_uA, gF_sD, gA_sF, gA_sA, gA_uA, gA_sD, gD_sF, gD_sA, gD_uA, gD_sD]) ?_
                  refine pw_if_ge r_12_product_9 (fun h09 => ?_) (fun h09 => absurd h09 (by omega))
                  refine pw_iload r_12_product_85 rfl ?_
                  refine pw_eqG (G' := sF (sF (sF G 12 (0) 45 (f1)) 12 (0) 48 (x1)) 12 (0) 47 (f1)) (by first | rfl | (rw [uA_self]; done) | (rw [sA_uA]; done) | (rw [sA_eq]; done) | (simp (disch := decide) only [sA_uA, sA_uA_ne, uA_abs, uA_abs2, uA_uA]; done) | (simp (disch := decide) only [sA_eq, sA_uA, sA_uA_ne, uA_abs, uA_abs2, uA_uA]; done) | (refine PH_ext (fun _ _ _ => ?_) (fun _ _ _ => ?_) (fun _ _ _ => ?_) <;> simp only [gF_sF, gF_sA, gF_uA, gF_sD, gA_sF, gA_sA, gA_uA, gA_sD, gD_sF, gD_sA, gD_uA, gD_sD] <;> (repeat' split) <;> first | rfl | (exfalso; omega) | simp_all)) ?_
                  refine pw_iret r_12_product_86 rfl (Nat.le_refl _) ⟨rfl, ?_⟩
                  exact h1 f1 _ x1 hF (by omega) (by omega) q4 q5
              · skip
                intro a1 s1 q1 q2 q3
                refine pw_istore (ls' := [some (vR 12 (0)), some (vI (v)), some (vI (0)), some (vI (s1 e))]) r_12_product_59 rfl rfl ?_
                refine pw_iload r_12_product_60 rfl ?_
                refine pw_if_eq r_12_product_61 (fun h61 => ?_) (fun h61 => absurd h61 (by decide))
                refine pw_iload r_12_product_70 rfl ?_
                refine pw_if_ne r_12_product_71 (fun h71 => ?_) (fun h71 => ?_)
                · skip
                  refine pw_iload r_12_product_78 rfl ?_
                  refine pw_iload r_12_product_79 rfl ?_
                  refine pw_idiv r_12_product_80 (by omega) ?_
                  refine pw_istore (ls' := [some (vR 12 (0)), some (vI (pDiv (v) (s1 e))), some (vI (0)), some (vI (s1 e))]) r_12_product_81 rfl rfl ?_
                  refine pw_goto r_12_product_82 ?_
                  refine pw_weakL (ls' := [some (vR 12 (0)), some (vI (pDiv (v) (s1 e))), none, none]) (⟨rfl, ⟨rfl, trivial⟩⟩) ?_
                  refine pw_eqG (G' := sF (sF G 12 (0) 45 (a1)) 12 (0) 48 (o)) (by first | rfl | (rw [uA_self]; done) | (rw [sA_uA]; done) | (rw [sA_eq]; done) | (simp (disch := decide) only [sA_uA, sA_uA_ne, uA_abs, uA_abs2, uA_uA]; done) | (simp (disch := decide) only [sA_eq, sA_uA, sA_uA_ne, uA_abs, uA_abs2, uA_uA]; done) | (refine PH_ext (fun _ _ _ => ?_) (fun _ _ _ => ?_) (fun _ _ _ => ?_) <;> simp only [gF_sF, gF_sA, gF_uA, gF_sD, gA_sF, gA_sA, gA_uA, gA_sD, gD_sF, gD_sA, gD_uA, gD_sD] <;> (repeat' split) <;> first | rfl | (exfalso; omega) | simp_all)) ?_
                  exact ih5 (a1) (pDiv (v) (s1 e)) ((fun e0 => wk (sgn b n p) (s e0) (s1 e0))) (by first | assumption | omega) (by show _ = wk (sgn b n p) (s e) (s1 e); first | (rw [wk_42 (by omega), hv]; done) | (rw [wk_47 (by omega), if_pos (by omega)]; done) | (rw [wk_47 (by omega), if_neg (by omega), hv]; done)) (fun res hres => hK res (EvX_more (by omega) (by decide) q1 hres)) (by omega)
                · skip
                  refine pw_const r_12_product_74 ?_
                  refine pw_goto r_12_product_75 ?_
                  refine pw_istore (ls' := [some (vR 12 (0)), some (vI (0)), some (vI (0)), some (vI (s1 e))]) r_12_product_81 rfl rfl ?_
                  refine pw_goto r_12_product_82 ?_
                  refine pw_weakL (ls' := [some (vR 12 (0)), some (vI (0)), none, none]) (⟨rfl, ⟨rfl, trivial⟩⟩) ?_
                  refine pw_eqG (G' := sF (sF G 12 (0) 45 (a1)) 12 (0) 48 (o)) (by first | rfl | (rw [uA_self]; done) | (rw [sA_uA]; done) | (rw [sA_eq]; done) | (simp (disch := decide) only [sA_uA, sA_uA_ne, uA_abs, uA_abs2, uA_uA]; done) | (simp (disch := decide) only [sA_eq, sA_uA, sA_uA_ne, uA_abs, uA_abs2, uA_uA]; done) | (refine PH_ext (fun _ _ _ => ?_) (fun _ _ _ => ?_) (fun _ _ _ => ?_) <;> simp only [gF_sF, gF_sA, gF_uA, gF_sD, gA_sF, gA_sA, gA_uA, gA_sD, gD_sF, gD_sA, gD_uA, gD_sD] <;> (repeat' split) <;> first | rfl | (exfalso; omega) | simp_all)) ?_
                  exact ih5 (a1) (0) ((fun e0 => wk (sgn b n p) (s e0) (s1 e0))) (by first | assumption | omega) (by show _ = wk (sgn b n p) (s e) (s1 e); first | (rw [wk_42 (by omega), hv]; done) | (rw [wk_47 (by omega), if_pos (by omega)]; done) | (rw [wk_47 (by omega), if_neg (by omega), hv]; done)) (fun res hres => hK res (EvX_more (by omega) (by decide) q1 hres)) (by omega)
            · skip
              refine pw_const r_12_product_39 ?_
              refine pw_goto r_12_product_40 ?_
              refine pw_istore (ls' := [some (vR 12 (0)), some (vI (v)), some (vI (1)), none]) r_12_product_44 rfl rfl ?_
              refine pw_aload r_12_product_45 rfl ?_
              refine pw_dup r_12_product_46 rfl ?_
              refine pw_getIv (v := p) r_12_product_47 fs_12_45 (by decide) (by first | rfl | simp [gF_sF, gF_sA, gF_uA, gF_sD, gA_sF, gA_sA, gA_uA, gA_sD, gD_sF, gD_sA, gD_uA, gD_sD]) ?_
              refine pw_const r_12_product_50 ?_
              refine pw_iadd r_12_product_51 (by omega) ?_
              refine pw_putI r_12_product_52 (by decide +kernel) fs_12_45 (by decide) ?_
              refine pw_aload r_12_product_55 rfl ?_
              refine pw_callV (av := []) (st := []) (ls0 := [some (vR 12 (0)), none, none, none, none]) r_12_product_56 rfl rfl rfl (Nat.le_refl _) ?_
              refine ih0 (d := d) (o := o) (n := n) (a := (p + 1)) (bs := bs) (b := b) (e := e) (by omega) (by exact hb) (by first | exact hbs | (simp (disch := decide) only [gF_sF]; first | done | exact hbs | omega | (simp; first | done | omega))) (by first | assumption | exact hba | omega) (by first | exact hn | (simp (disch := decide) only [gF_sF]; first | done | exact hn | omega | (simp; first | done | omega))) (by first | assumption | exact hnn | omega) (by first | exact ha | rfl | (simp (disch := decide) only [gF_sF]; first | done | omega | (simp; first | done | omega))) (by first | assumption | exact haa | omega) (by first | exact hf | (simp (disch := decide) only [gF_sF]; first | done | exact hf | omega | (simp; first | done | omega))) (by first | assumption | exact ho | omega) (by first | exact hop | (simp (disch := decide) only [gF_sF]; first | done | exact hop | omega | (simp; first | done | omega))) (by exact hve) ?_ ?_
              · skip
                intro f1 v1 x1 q1 q2 q3 q4 q5
                have hF : EvX b n 4 o a none (.inl f1) := hK _ (EvX_moreF (by omega) q1)
                refine pw_istore (ls' := [some (vR 12 (0)), some (vI (v)), some (vI (1)), some (vI (v1))]) r_12_product_59 rfl rfl ?_
                refine pw_iload r_12_product_60 rfl ?_
                refine pw_if_eq r_12_product_61 (fun h61 => absurd h61 (by decide)) (fun h61 => ?_)
                refine pw_iload r_12_product_64 rfl ?_
                refine pw_iload r_12_product_65 rfl ?_
                refine pw_imulW r_12_product_66 ?_
                refine pw_goto r_12_product_67 ?_
                refine pw_istore (ls' := [some (vR 12 (0)), some (vI (wr (v * v1))), some (vI (1)), some (vI (v1))]) r_12_product_81 rfl rfl ?_
                refine pw_goto r_12_product_82 ?_
                refine pw_aload r_12_product_5 rfl ?_
                refine pw_getIv (v := f1) r_12_product_6 fs_12_47 (by decide) (by first | rfl | simp [gF_sF, gF_sA, gF_uA, gF_sD, gA_sF, gA_sA, gA_uA, gA_sD, gD_sF, gD_sA, gD_uA, gD_sD]) ?_
                refine pw_if_ge r_12_product_9 (fun h09 => ?_) (fun h09 => absurd h09 (by omega))
                refine pw_iload r_12_product_85 rfl ?_
                refine pw_eqG (G' := sF (sF (sF G 12 (0) 45 (f1)) 12 (0) 48 (x1)) 12 (0) 47 (f1)) (by first | rfl | (rw [uA_self]; done) | (rw [sA_uA]; done) | (rw [sA_eq]; done) | (simp (disch := decide) only [sA_uA, sA_uA_ne, uA_abs, uA_abs2, uA_uA]; done) | (simp (disch := decide) only [sA_eq, sA_uA, sA_uA_ne, uA_abs, uA_abs2, uA_uA]; done) | (refine PH_ext (fun _ _ _ => ?_) (fun _ _ _ => ?_) (fun _ _ _ => ?_) <;> simp only [gF_sF, gF_sA, gF_uA, gF_sD, gA_sF, gA_sA, gA_uA, gA_sD, gD_sF, gD_sA, gD_uA, gD_sD] <;> (repeat' split) <;> first | rfl | (exfalso; omega) | simp_all)) ?_
                refine pw_iret r_12_product_86 rfl (Nat.le_refl _) ⟨rfl, ?_⟩
                exact h1 f1 _ x1 hF (by omega) (by omega) q4 q5
              · skip
                intro a1 s1 q1 q2 q3
                refine pw_istore (ls' := [some (vR 12 (0)), some (vI (v)), some (vI (1)), some (vI (s1 e))]) r_12_product_59 rfl rfl ?_
                refine pw_iload r_12_product_60 rfl ?_
                refine pw_if_eq r_12_product_61 (fun h61 => absurd h61 (by decide)) (fun h61 => ?_)
                refine pw_iload r_12_product_64 rfl ?_
                refine pw_iload r_12_product_65 rfl ?_
                refine pw_imulW r_12_product_66 ?_
                refine pw_goto r_12_product_67 ?_
                refine pw_istore (ls' := [some (vR 12 (0)), some (vI (wr (v * (s1 e)))), some (vI (1)), some (vI (s1 e))]) r_12_product_81 rfl rfl ?_
                refine pw_goto r_12_product_82 ?_
                refine pw_weakL (ls' := [some (vR 12 (0)), some (vI (wr (v * (s1 e)))), none, none]) (⟨rfl, ⟨rfl, trivial⟩⟩) ?_
                refine pw_eqG (G' := sF (sF G 12 (0) 45 (a1)) 12 (0) 48 (o)) (by first | rfl | (rw [uA_self]; done) | (rw [sA_uA]; done) | (rw [sA_eq]; done) | (simp (disch := decide) only [sA_uA, sA_uA_ne, uA_abs, uA_abs2, uA_uA]; done) | (simp (disch := decide) only [sA_eq, sA_uA, sA_uA_ne, uA_abs, uA_abs2, uA_uA]; done) | (refine PH_ext (fun _ _ _ => ?_) (fun _ _ _ => ?_) (fun _ _ _ => ?_) <;> simp only [gF_sF, gF_sA, gF_uA, gF_sD, gA_sF, gA_sA, gA_uA, gA_sD, gD_sF, gD_sA, gD_uA, gD_sD] <;> (repeat' split) <;> first | rfl | (exfalso; omega) | simp_all)) ?_
                exact ih5 (a1) (wr (v * (s1 e))) ((fun e0 => wk (sgn b n p) (s e0) (s1 e0))) (by first | assumption | omega) (by show _ = wk (sgn b n p) (s e) (s1 e); first | (rw [wk_42 (by omega), hv]; done) | (rw [wk_47 (by omega), if_pos (by omega)]; done) | (rw [wk_47 (by omega), if_neg (by omega), hv]; done)) (fun res hres => hK res (EvX_more (by omega) (by decide) q1 hres)) (by omega)
    exact L5 _ (a1) (s1 e) (s1) (by first | assumption | omega) (rfl) (fun res hres => EvX_lev (by decide) q1 hres) (Nat.lt_succ_self _)
set_option maxRecDepth 10000 in
theorem sp_X12_one_s {l : Launch} {w : Wo} (nR : Nat) (ih0 : ∀ {d : Nat} {G : PH} {P : Option PV → PH → Prop} {o n a bs : Int} {b e : Int → Int}, (10 * (8 - o) + 8 < (nR : Int)) → (∀ j, 0 ≤ j → j < n → b j = if bs < 0 then gA G 228 0 j else gA G 229 0 (bs + j)) → ((gF G 12 0 44) = bs) → (bs ≤ 3040) → ((gF G 12 0 46) = n) → (0 ≤ n ∧ n ≤ 160) → ((gF G 12 0 45) = a) → (0 ≤ a ∧ a ≤ n) → ((gF G 12 0 47) < 0) → (0 ≤ o ∧ o ≤ 8) → ((gF G 12 0 48) = o) → (∀ j, 0 ≤ j → j < 9 → (gA G 235 0 (j)) = e j) → (∀ f v x, EvX b n 0 o a none (.inl f) → a ≤ f → f ≤ n → o ≤ x → x ≤ 8 → P (some (vI v)) (sF (sF (sF G 12 0 45 f) 12 0 48 x) 12 0 47 f)) → (∀ a1 s1, EvX b n 0 o a none (.inr (a1, s1)) → a ≤ a1 → a1 ≤ n → P (some (vI (s1 e))) (sF (sF G 12 0 45 a1) 12 0 48 o)) → PW l w M_X12_either (d + nR + 2) 0 [some (vR 12 (0)), none, none] [] G P) (ihR : ∀ {d : Nat} {G : PH} {P : Option PV → PH → Prop} {o n a bs : Int} {b e : Int → Int}, (10 * (8 - o) + 3 < (nR : Int)) → (∀ j, 0 ≤ j → j < n → b j = if bs < 0 then gA G 228 0 j else gA G 229 0 (bs + j)) → ((gF G 12 0 44) = bs) → (bs ≤ 3040) → ((gF G 12 0 46) = n) → (0 ≤ n ∧ n ≤ 160) → ((gF G 12 0 45) = a) → (0 ≤ a ∧ a ≤ n) → ((gF G 12 0 47) < 0) → (0 ≤ o ∧ o ≤ 8) → ((gF G 12 0 48) = o) → (∀ j, 0 ≤ j → j < 9 → (gA G 235 0 (j)) = e j) → (∀ f v x, EvX b n 5 o a none (.inl f) → a ≤ f → f ≤ n → o ≤ x → x ≤ 8 → P (some (vI v)) (sF (sF (sF G 12 0 45 f) 12 0 48 x) 12 0 47 f)) → (∀ a1 s1, EvX b n 5 o a none (.inr (a1, s1)) → a ≤ a1 → a1 ≤ n → P (some (vI (s1 e))) (sF (sF G 12 0 45 a1) 12 0 48 o)) → PW l w M_X12_one (d + nR + 2) 0 [some (vR 12 (0)), none, none, none, none] [] G P) : ∀ {d : Nat} {G : PH} {P : Option PV → PH → Prop} {o n a bs : Int} {b e : Int → Int}, (10 * (8 - o) + 3 < ((nR + 1) : Int)) → (∀ j, 0 ≤ j → j < n → b j = if bs < 0 then gA G 228 0 j else gA G 229 0 (bs + j)) → ((gF G 12 0 44) = bs) → (bs ≤ 3040) → ((gF G 12 0 46) = n) → (0 ≤ n ∧ n ≤ 160) → ((gF G 12 0 45) = a) → (0 ≤ a ∧ a ≤ n) → ((gF G 12 0 47) < 0) → (0 ≤ o ∧ o ≤ 8) → ((gF G 12 0 48) = o) → (∀ j, 0 ≤ j → j < 9 → (gA G 235 0 (j)) = e j) → (∀ f v x, EvX b n 5 o a none (.inl f) → a ≤ f → f ≤ n → o ≤ x → x ≤ 8 → P (some (vI v)) (sF (sF (sF G 12 0 45 f) 12 0 48 x) 12 0 47 f)) → (∀ a1 s1, EvX b n 5 o a none (.inr (a1, s1)) → a ≤ a1 → a1 ≤ n → P (some (vI (s1 e))) (sF (sF G 12 0 45 a1) 12 0 48 o)) → PW l w M_X12_one (d + (nR + 1) + 2) 0 [some (vR 12 (0)), none, none, none, none] [] G P := by
  intro d G P o n a bs b e hM hb hbs hba hn hnn ha haa hf ho hop hve h1 h2
  rw [show d + (nR + 1) + 2 = d + nR + 3 by omega]
  have hbp := byt_sgn b n a
  have hnb := nm_byt b n a
  refine pw_aload r_12_one_0 rfl ?_
  refine pw_getI r_12_one_1 fs_12_47 (by decide) ?_
  refine pw_if_lt r_12_one_4 (fun h04 => ?_) (fun h04 => absurd h04 (by omega))
  refine pw_aload r_12_one_9 rfl ?_
  refine pw_callV (av := []) (st := []) (ls0 := [some (vR 12 (0))]) r_12_one_10 rfl rfl rfl (Nat.le_refl _) ?_
  refine byO (n := n) (a := a) (bs := bs) (b := b) (by exact hb) (by first | exact hbs | (simp (disch := decide) only [gF_sF]; first | done | exact hbs | omega | (simp; first | done | omega))) (by first | assumption | exact hba | omega) (by first | exact hn | (simp (disch := decide) only [gF_sF]; first | done | exact hn | omega | (simp; first | done | omega))) (by first | assumption | exact hnn | omega) (by first | exact ha | rfl | (simp (disch := decide) only [gF_sF]; first | done | omega | (simp; first | done | omega))) (by first | assumption | exact haa | omega) ?_
  refine pw_istore (ls' := [some (vR 12 (0)), some (vI (byt b n a)), none, none, none]) r_12_one_13 rfl rfl ?_
  refine pw_iload r_12_one_14 rfl ?_
  refine pw_const r_12_one_15 ?_
  refine pw_icmp_eq r_12_one_17 (fun h17 => ?_) (fun h17 => ?_)
  · skip
    refine pw_aload r_12_one_26 rfl ?_
    refine pw_getI r_12_one_27 fs_12_48 (by decide) ?_
    refine pw_top (b := o) (hop) ?_
    refine pw_const r_12_one_30 ?_
    refine pw_icmp_ne r_12_one_32 (fun h32 => ?_) (fun h32 => ?_)
    · skip
      refine pw_aload r_12_one_40 rfl ?_
      refine pw_dup r_12_one_41 rfl ?_
      refine pw_getI r_12_one_42 fs_12_48 (by decide) ?_
      refine pw_top (b := o) (hop) ?_
      refine pw_const r_12_one_45 ?_
      refine pw_iadd r_12_one_46 (by omega) ?_
      refine pw_putI r_12_one_47 (by decide +kernel) fs_12_48 (by decide) ?_
      refine pw_aload r_12_one_50 rfl ?_
      refine pw_dup r_12_one_51 rfl ?_
      refine pw_getIv (v := gF G 12 (0) 45) r_12_one_52 fs_12_45 (by decide) (by first | rfl | simp [gF_sF, gF_sA, gF_uA, gF_sD, gA_sF, gA_sA, gA_uA, gA_sD, gD_sF, gD_sA, gD_uA, gD_sD]) ?_
      refine pw_top (b := a) (ha) ?_
      refine pw_const r_12_one_55 ?_
      refine pw_iadd r_12_one_56 (by omega) ?_
      refine pw_putI r_12_one_57 (by decide +kernel) fs_12_45 (by decide) ?_
      refine pw_iload r_12_one_60 rfl ?_
      refine pw_const r_12_one_61 ?_
      refine pw_icmp_ne r_12_one_63 (fun h63 => ?_) (fun h63 => ?_)
      · skip
        have h33 : sgn b n a = 33 := by omega
        refine pw_aload r_12_one_73 rfl ?_
        refine pw_callV (av := []) (st := []) (ls0 := [some (vR 12 (0)), none, none, none, none]) r_12_one_74 rfl rfl rfl (Nat.le_refl _) ?_
        refine ihR (d := d) (o := (o + 1)) (n := n) (a := (a + 1)) (bs := bs) (b := b) (e := e) (by omega) (by exact hb) (by first | exact hbs | (simp (disch := decide) only [gF_sF]; first | done | exact hbs | omega | (simp; first | done | omega))) (by first | assumption | exact hba | omega) (by first | exact hn | (simp (disch := decide) only [gF_sF]; first | done | exact hn | omega | (simp; first | done | omega))) (by first | assumption | exact hnn | omega) (by first | exact ha | rfl | (simp (disch := decide) only [gF_sF]; first | done | omega | (simp; first | done | omega))) (by first | assumption | exact haa | omega) (by first | exact hf | (simp (disch := decide) only [gF_sF]; first | done | exact hf | omega | (simp; first | done | omega))) (by first | assumption | exact ho | omega) (by first | exact hop | (simp (disch := decide) only [gF_sF]; first | done | exact hop | omega | (simp; first | done | omega))) (by exact hve) ?_ ?_
        · skip
          intro f1 v1 x1 q1 q2 q3 q4 q5
          refine pw_istore (ls' := [some (vR 12 (0)), some (vI (byt b n a)), some (vI (v1)), none, none]) r_12_one_77 rfl rfl ?_
          refine pw_iload r_12_one_78 rfl ?_
          refine pw_const r_12_one_79 ?_
          refine pw_icmp_ne r_12_one_81 (fun h81 => ?_) (fun h81 => absurd h81 (by omega))
          refine pw_aload r_12_one_98 rfl ?_
          refine pw_dup r_12_one_99 rfl ?_
          refine pw_getIv (v := x1) r_12_one_100 fs_12_48 (by decide) (by first | rfl | simp [gF_sF, gF_sA, gF_uA, gF_sD, gA_sF, gA_sA, gA_uA, gA_sD, gD_sF, gD_sA, gD_uA, gD_sD]) ?_
          refine pw_const r_12_one_103 ?_
          refine pw_isub r_12_one_104 (by omega) ?_
          refine pw_putI r_12_one_105 (by decide +kernel) fs_12_48 (by decide) ?_
          refine pw_iload r_12_one_108 rfl ?_
          refine pw_const r_12_one_109 ?_
          refine pw_icmp_ne r_12_one_111 (fun h111 => ?_) (fun h111 => absurd h111 (by omega))
          refine pw_iload r_12_one_118 rfl ?_
          refine pw_if_ne r_12_one_119 (fun h119 => ?_) (fun h119 => ?_)
          · skip
            refine pw_const r_12_one_126 ?_
            refine pw_eqG (G' := sF (sF (sF G 12 (0) 45 (f1)) 12 (0) 48 ((x1 - 1))) 12 (0) 47 (f1)) (by first | rfl | (rw [uA_self]; done) | (rw [sA_uA]; done) | (rw [sA_eq]; done) | (simp (disch := decide) only [sA_uA, sA_uA_ne, uA_abs, uA_abs2, uA_uA]; done) | (simp (disch := decide) only [sA_eq, sA_uA, sA_uA_ne, uA_abs, uA_abs2, uA_uA]; done) | (refine PH_ext (fun _ _ _ => ?_) (fun _ _ _ => ?_) (fun _ _ _ => ?_) <;> simp only [gF_sF, gF_sA, gF_uA, gF_sD, gA_sF, gA_sA, gA_uA, gA_sD, gD_sF, gD_sA, gD_uA, gD_sD] <;> (repeat' split) <;> first | rfl | (exfalso; omega) | simp_all)) ?_
            refine pw_iret r_12_one_127 rfl (Nat.le_refl _) ⟨rfl, ?_⟩
            exact h1 f1 _ (x1 - 1) (EvX_notF h33 (by omega) q1) (by omega) (by omega) (by omega) (by omega)
          · skip
            refine pw_const r_12_one_122 ?_
            refine pw_goto r_12_one_123 ?_
            refine pw_eqG (G' := sF (sF (sF G 12 (0) 45 (f1)) 12 (0) 48 ((x1 - 1))) 12 (0) 47 (f1)) (by first | rfl | (rw [uA_self]; done) | (rw [sA_uA]; done) | (rw [sA_eq]; done) | (simp (disch := decide) only [sA_uA, sA_uA_ne, uA_abs, uA_abs2, uA_uA]; done) | (simp (disch := decide) only [sA_eq, sA_uA, sA_uA_ne, uA_abs, uA_abs2, uA_uA]; done) | (refine PH_ext (fun _ _ _ => ?_) (fun _ _ _ => ?_) (fun _ _ _ => ?_) <;> simp only [gF_sF, gF_sA, gF_uA, gF_sD, gA_sF, gA_sA, gA_uA, gA_sD, gD_sF, gD_sA, gD_uA, gD_sD] <;> (repeat' split) <;> first | rfl | (exfalso; omega) | simp_all)) ?_
            refine pw_iret r_12_one_127 rfl (Nat.le_refl _) ⟨rfl, ?_⟩
            exact h1 f1 _ (x1 - 1) (EvX_notF h33 (by omega) q1) (by omega) (by omega) (by omega) (by omega)
        · skip
          intro a1 s1 q1 q2 q3
          refine pw_istore (ls' := [some (vR 12 (0)), some (vI (byt b n a)), some (vI (s1 e)), none, none]) r_12_one_77 rfl rfl ?_
          refine pw_iload r_12_one_78 rfl ?_
          refine pw_const r_12_one_79 ?_
          refine pw_icmp_ne r_12_one_81 (fun h81 => ?_) (fun h81 => absurd h81 (by omega))
          refine pw_aload r_12_one_98 rfl ?_
          refine pw_dup r_12_one_99 rfl ?_
          refine pw_getIv (v := (o + 1)) r_12_one_100 fs_12_48 (by decide) (by first | rfl | simp [gF_sF, gF_sA, gF_uA, gF_sD, gA_sF, gA_sA, gA_uA, gA_sD, gD_sF, gD_sA, gD_uA, gD_sD]) ?_
          refine pw_const r_12_one_103 ?_
          refine pw_isub r_12_one_104 (by omega) ?_
          refine pw_top (b := o) (by omega) ?_
          refine pw_putI r_12_one_105 (by decide +kernel) fs_12_48 (by decide) ?_
          refine pw_iload r_12_one_108 rfl ?_
          refine pw_const r_12_one_109 ?_
          refine pw_icmp_ne r_12_one_111 (fun h111 => ?_) (fun h111 => absurd h111 (by omega))
          refine pw_iload r_12_one_118 rfl ?_
          refine pw_if_ne r_12_one_119 (fun h119 => ?_) (fun h119 => ?_)
          · skip
            refine pw_const r_12_one_126 ?_
            refine pw_eqG (G' := sF (sF G 12 (0) 45 (a1)) 12 (0) 48 (o)) (by first | rfl | (rw [uA_self]; done) | (rw [sA_uA]; done) | (rw [sA_eq]; done) | (simp (disch := decide) only [sA_uA, sA_uA_ne, uA_abs, uA_abs2, uA_uA]; done) | (simp (disch := decide) only [sA_eq, sA_uA, sA_uA_ne, uA_abs, uA_abs2, uA_uA]; done) | (refine PH_ext (fun _ _ _ => ?_) (fun _ _ _ => ?_) (fun _ _ _ => ?_) <;> simp only [gF_sF, gF_sA, gF_uA, gF_sD, gA_sF, gA_sA, gA_uA, gA_sD, gD_sF, gD_sA, gD_uA, gD_sD] <;> (repeat' split) <;> first | rfl | (exfalso; omega) | simp_all)) ?_
            refine pw_iret r_12_one_127 rfl (Nat.le_refl _) ⟨rfl, ?_⟩
            exact pe (h2 a1 _ (EvX_not h33 (by omega) q1) (by omega) (by omega)) (by first | exact (b2i_t (by omega)).symm | exact (b2i_f (by omega)).symm)
          · skip
            refine pw_const r_12_one_122 ?_
            refine pw_goto r_12_one_123 ?_
            refine pw_eqG (G' := sF (sF G 12 (0) 45 (a1)) 12 (0) 48 (o)) (by first | rfl | (rw [uA_self]; done) | (rw [sA_uA]; done) | (rw [sA_eq]; done) | (simp (disch := decide) only [sA_uA, sA_uA_ne, uA_abs, uA_abs2, uA_uA]; done) | (simp (disch := decide) only [sA_eq, sA_uA, sA_uA_ne, uA_abs, uA_abs2, uA_uA]; done) | (refine PH_ext (fun _ _ _ => ?_) (fun _ _ _ => ?_) (fun _ _ _ => ?_) <;> simp only [gF_sF, gF_sA, gF_uA, gF_sD, gA_sF, gA_sA, gA_uA, gA_sD, gD_sF, gD_sA, gD_uA, gD_sD] <;> (repeat' split) <;> first | rfl | (exfalso; omega) | simp_all)) ?_
            refine pw_iret r_12_one_127 rfl (Nat.le_refl _) ⟨rfl, ?_⟩
            exact pe (h2 a1 _ (EvX_not h33 (by omega) q1) (by omega) (by omega)) (by first | exact (b2i_t (by omega)).symm | exact (b2i_f (by omega)).symm)
      · skip
        have h40 : sgn b n a = 40 := by omega
        refine pw_aload r_12_one_66 rfl ?_
        refine pw_callV (av := []) (st := []) (ls0 := [some (vR 12 (0)), none, none]) r_12_one_67 rfl rfl rfl (Nat.le_refl _) ?_
        refine ih0 (d := d) (o := (o + 1)) (n := n) (a := (a + 1)) (bs := bs) (b := b) (e := e) (by omega) (by exact hb) (by first | exact hbs | (simp (disch := decide) only [gF_sF]; first | done | exact hbs | omega | (simp; first | done | omega))) (by first | assumption | exact hba | omega) (by first | exact hn | (simp (disch := decide) only [gF_sF]; first | done | exact hn | omega | (simp; first | done | omega))) (by first | assumption | exact hnn | omega) (by first | exact ha | rfl | (simp (disch := decide) only [gF_sF]; first | done | omega | (simp; first | done | omega))) (by first | assumption | exact haa | omega) (by first | exact hf | (simp (disch := decide) only [gF_sF]; first | done | exact hf | omega | (simp; first | done | omega))) (by first | assumption | exact ho | omega) (by first | exact hop | (simp (disch := decide) only [gF_sF]; first | done | exact hop | omega | (simp; first | done | omega))) (by exact hve) ?_ ?_
        · skip
          intro f1 v1 x1 q1 q2 q3 q4 q5
          refine pw_goto r_12_one_70 ?_
          refine pw_istore (ls' := [some (vR 12 (0)), some (vI (byt b n a)), some (vI (v1)), none, none]) r_12_one_77 rfl rfl ?_
          refine pw_iload r_12_one_78 rfl ?_
          refine pw_const r_12_one_79 ?_
          refine pw_icmp_ne r_12_one_81 (fun h81 => absurd h81 (by omega)) (fun h81 => ?_)
          refine pw_aload r_12_one_84 rfl ?_
          refine pw_const r_12_one_85 ?_
          refine pw_callV (av := [vI (41)]) (st := []) (ls0 := [some (vR 12 (0)), some (vI (41))]) r_12_one_87 rfl rfl rfl (Nat.le_refl _) ?_
          refine tkF (by first | (show 0 ≤ f1; omega) | (simp (disch := decide) only [gF_sF]; first | done | omega | (simp; first | done | omega))) ?_
          refine pw_if_ne r_12_one_90 (fun h90 => absurd h90 (by decide)) (fun h90 => ?_)
          refine pw_aload r_12_one_93 rfl ?_
          refine pw_callV (av := []) (st := []) (ls0 := [some (vR 12 (0))]) r_12_one_94 rfl rfl rfl (Nat.le_refl _) ?_
          refine wrF (by first | (show 0 ≤ f1; omega) | (simp (disch := decide) only [gF_sF]; first | done | omega | (simp; first | done | omega))) ?_
          refine pw_eqG (G' := sF (sF (sF G 12 (0) 45 (f1)) 12 (0) 48 (x1)) 12 (0) 47 (f1)) (by first | rfl | (rw [uA_self]; done) | (rw [sA_uA]; done) | (rw [sA_eq]; done) | (simp (disch := decide) only [sA_uA, sA_uA_ne, uA_abs, uA_abs2, uA_uA]; done) | (simp (disch := decide) only [sA_eq, sA_uA, sA_uA_ne, uA_abs, uA_abs2, uA_uA]; done) | (refine PH_ext (fun _ _ _ => ?_) (fun _ _ _ => ?_) (fun _ _ _ => ?_) <;> simp only [gF_sF, gF_sA, gF_uA, gF_sD, gA_sF, gA_sA, gA_uA, gA_sD, gD_sF, gD_sA, gD_uA, gD_sD] <;> (repeat' split) <;> first | rfl | (exfalso; omega) | simp_all)) ?_
          refine pw_iret r_12_one_97 rfl (Nat.le_refl _) ⟨rfl, ?_⟩
          exact h1 f1 _ x1 (EvX_parF h40 (by omega) q1) (by omega) (by omega) (by omega) q5
        · skip
          intro a1 s1 q1 q2 q3
          have hb1 := byt_sgn b n a1
          refine pw_goto r_12_one_70 ?_
          refine pw_istore (ls' := [some (vR 12 (0)), some (vI (byt b n a)), some (vI (s1 e)), none, none]) r_12_one_77 rfl rfl ?_
          refine pw_iload r_12_one_78 rfl ?_
          refine pw_const r_12_one_79 ?_
          refine pw_icmp_ne r_12_one_81 (fun h81 => absurd h81 (by omega)) (fun h81 => ?_)
          refine pw_aload r_12_one_84 rfl ?_
          refine pw_const r_12_one_85 ?_
          refine pw_callV (av := [vI (41)]) (st := []) (ls0 := [some (vR 12 (0)), some (vI (41))]) r_12_one_87 rfl rfl rfl (Nat.le_refl _) ?_
          refine tkO (n := n) (a := a1) (bs := bs) (b := b) (by exact hb) (by first | exact hbs | (simp (disch := decide) only [gF_sF]; first | done | exact hbs | omega | (simp; first | done | omega))) (by first | assumption | exact hba | omega) (by first | exact hn | (simp (disch := decide) only [gF_sF]; first | done | exact hn | omega | (simp; first | done | omega))) (by first | assumption | exact hnn | omega) (by first | exact ha | rfl | (simp (disch := decide) only [gF_sF]; first | done | omega | (simp; first | done | omega))) (by first | assumption | exact haa | omega) (by first | exact hf | (simp (disch := decide) only [gF_sF]; first | done | exact hf | omega | (simp; first | done | omega))) ?_ ?_
          · skip
            intro q9
            refine pw_if_ne r_12_one_90 (fun h90 => absurd h90 (by decide)) (fun h90 => ?_)
            refine pw_aload r_12_one_93 rfl ?_
            refine pw_callV (av := []) (st := []) (ls0 := [some (vR 12 (0))]) r_12_one_94 rfl rfl rfl (Nat.le_refl _) ?_
            refine wrO (a := a1) (by first | exact ha | rfl | (simp (disch := decide) only [gF_sF]; first | done | omega | (simp; first | done | omega))) (by first | exact hf | (simp (disch := decide) only [gF_sF]; first | done | exact hf | omega | (simp; first | done | omega))) ?_
            refine pw_eqG (G' := sF (sF (sF G 12 (0) 45 (a1)) 12 (0) 48 ((o + 1))) 12 (0) 47 (a1)) (by first | rfl | (rw [uA_self]; done) | (rw [sA_uA]; done) | (rw [sA_eq]; done) | (simp (disch := decide) only [sA_uA, sA_uA_ne, uA_abs, uA_abs2, uA_uA]; done) | (simp (disch := decide) only [sA_eq, sA_uA, sA_uA_ne, uA_abs, uA_abs2, uA_uA]; done) | (refine PH_ext (fun _ _ _ => ?_) (fun _ _ _ => ?_) (fun _ _ _ => ?_) <;> simp only [gF_sF, gF_sA, gF_uA, gF_sD, gA_sF, gA_sA, gA_uA, gA_sD, gD_sF, gD_sA, gD_uA, gD_sD] <;> (repeat' split) <;> first | rfl | (exfalso; omega) | simp_all)) ?_
            refine pw_iret r_12_one_97 rfl (Nat.le_refl _) ⟨rfl, ?_⟩
            exact h1 a1 0 (o + 1) (EvX_parN h40 (by omega) q1 (by omega)) (by omega) (by omega) (by omega) (by omega)
          · skip
            intro q9
            refine pw_if_ne r_12_one_90 (fun h90 => ?_) (fun h90 => absurd h90 (by decide))
            refine pw_aload r_12_one_98 rfl ?_
            refine pw_dup r_12_one_99 rfl ?_
            refine pw_getIv (v := (o + 1)) r_12_one_100 fs_12_48 (by decide) (by first | rfl | simp [gF_sF, gF_sA, gF_uA, gF_sD, gA_sF, gA_sA, gA_uA, gA_sD, gD_sF, gD_sA, gD_uA, gD_sD]) ?_
            refine pw_const r_12_one_103 ?_
            refine pw_isub r_12_one_104 (by omega) ?_
            refine pw_top (b := o) (by omega) ?_
            refine pw_putI r_12_one_105 (by decide +kernel) fs_12_48 (by decide) ?_
            refine pw_iload r_12_one_108 rfl ?_
            refine pw_const r_12_one_109 ?_
            refine pw_icmp_ne r_12_one_111 (fun h111 => absurd h111 (by omega)) (fun h111 => ?_)
            refine pw_iload r_12_one_114 rfl ?_
            refine pw_goto r_12_one_115 ?_
            refine pw_eqG (G' := sF (sF G 12 (0) 45 (a1 + 1)) 12 (0) 48 (o)) (by first | rfl | (rw [uA_self]; done) | (rw [sA_uA]; done) | (rw [sA_eq]; done) | (simp (disch := decide) only [sA_uA, sA_uA_ne, uA_abs, uA_abs2, uA_uA]; done) | (simp (disch := decide) only [sA_eq, sA_uA, sA_uA_ne, uA_abs, uA_abs2, uA_uA]; done) | (refine PH_ext (fun _ _ _ => ?_) (fun _ _ _ => ?_) (fun _ _ _ => ?_) <;> simp only [gF_sF, gF_sA, gF_uA, gF_sD, gA_sF, gA_sA, gA_uA, gA_sD, gD_sF, gD_sA, gD_uA, gD_sD] <;> (repeat' split) <;> first | rfl | (exfalso; omega) | simp_all)) ?_
            refine pw_iret r_12_one_127 rfl (Nat.le_refl _) ⟨rfl, ?_⟩
            exact h2 (a1 + 1) s1 (EvX_par h40 (by omega) q1 (by omega)) (by omega) (by omega)
    · skip
      refine pw_aload r_12_one_35 rfl ?_
      refine pw_callV (av := []) (st := []) (ls0 := [some (vR 12 (0))]) r_12_one_36 rfl rfl rfl (Nat.le_refl _) ?_
      refine wrO (a := a) (by first | exact ha | rfl | (simp (disch := decide) only [gF_sF]; first | done | omega | (simp; first | done | omega))) (by first | exact hf | (simp (disch := decide) only [gF_sF]; first | done | exact hf | omega | (simp; first | done | omega))) ?_
      refine pw_iret r_12_one_39 rfl (Nat.le_refl _) ⟨rfl, ?_⟩
      rw [show sF G 12 0 47 a = sF (sF (sF G 12 0 45 a) 12 0 48 o) 12 0 47 a by rw [sF_idv ha, sF_idv hop]]
      exact h1 a 0 o (EvX_deep (by omega) (by omega)) (by omega) (by omega) (by omega) (by omega)
  · skip
    refine pw_iload r_12_one_20 rfl ?_
    refine pw_const r_12_one_21 ?_
    refine pw_icmp_ne r_12_one_23 (fun h23 => ?_) (fun h23 => ?_)
    · skip
      refine pw_iload r_12_one_128 rfl ?_
      refine pw_callS (av := [vI (byt b n a)]) (st := []) (ls0 := [some (vI (byt b n a))]) r_12_one_129 rfl rfl rfl (Nat.le_refl _) ?_
      refine sp_X12_nameOf  ?_
      refine pw_istore (ls' := [some (vR 12 (0)), some (vI (byt b n a)), some (vI (nmIx (byt b n a))), none, none]) r_12_one_132 rfl rfl ?_
      refine pw_iload r_12_one_133 rfl ?_
      refine pw_if_lt r_12_one_134 (fun h134 => ?_) (fun h134 => ?_)
      · skip
        refine pw_const r_12_one_154 ?_
        refine pw_istore (ls' := [some (vR 12 (0)), some (vI (byt b n a)), some (vI (nmIx (byt b n a))), some (vI (0)), none]) r_12_one_155 rfl rfl ?_
        refine pw_const r_12_one_156 ?_
        refine pw_istore (ls' := [some (vR 12 (0)), some (vI (byt b n a)), some (vI (nmIx (byt b n a))), some (vI (0)), some (vI (0))]) r_12_one_157 rfl rfl ?_
        have L212 : ∀ (i p m : Int), (hi : 0 ≤ i ∧ i ≤ 4) → (hp : p = a + i) → (hpn : p ≤ n) → (hm : m = dgV b n a i) → (hd : ∀ j, 0 ≤ j → j < i → isDg (sgn b n (a + j))) → (hx : i = 4 ∨ ¬ isDg (sgn b n (a + i))) → PW l w M_X12_one (d + nR + 3) 212 [some (vR 12 (0)), some (vI (byt b n a)), some (vI (nmIx (byt b n a))), some (vI (m)), some (vI (i))] [] (sF G 12 (0) 45 (p)) P := by
          intro i p m hi hp hpn hm hd hx
          refine pw_iload r_12_one_212 rfl ?_
          refine pw_if_ne r_12_one_214 (fun h214 => ?_) (fun h214 => ?_)
          · skip
            refine pw_iload r_12_one_224 rfl ?_
            refine pw_iret r_12_one_225 rfl (Nat.le_refl _) ⟨rfl, ?_⟩
            rw [show sF G 12 0 45 p = sF (sF G 12 0 45 p) 12 0 48 o from (sF_idv (by first | exact hop | (simp (disch := decide) only [gF_sF]; first | exact hop | (simp; exact hop)))).symm]
            exact pe (h2 p (fun _ => dgV b n a i) (by rw [hp]; exact EvX_dig (by have h9 := hd 0 (by omega) (by omega); rw [Int.add_zero] at h9; exact h9) ⟨hi.1, hi.2, hd, hx⟩) (by omega) (by omega)) hm
          · skip
            refine pw_aload r_12_one_217 rfl ?_
            refine pw_callV (av := []) (st := []) (ls0 := [some (vR 12 (0))]) r_12_one_218 rfl rfl rfl (Nat.le_refl _) ?_
            refine wrO (a := p) (by first | exact ha | rfl | (simp (disch := decide) only [gF_sF]; first | done | omega | (simp; first | done | omega))) (by first | exact hf | (simp (disch := decide) only [gF_sF]; first | done | exact hf | omega | (simp; first | done | omega))) ?_
            refine pw_goto r_12_one_221 ?_
            refine pw_iret r_12_one_225 rfl (Nat.le_refl _) ⟨rfl, ?_⟩
            rw [show sF G 12 0 45 p = sF (sF G 12 0 45 p) 12 0 48 o from (sF_idv (by first | exact hop | (simp (disch := decide) only [gF_sF]; first | exact hop | (simp; exact hop)))).symm]
            exact h1 p 0 o (by rw [show p = a by omega]; exact EvX_bad (by rw [show i = 0 by omega, Int.add_zero] at hx; exact hx.resolve_left (by decide)) (by omega) (by omega) (by omega)) (by omega) (by omega) (by omega) (by omega)
        have L159 : ∀ (nF : Nat) (i p m : Int), (hi : 0 ≤ i ∧ i ≤ 4) → (hp : p = a + i) → (hpn : p ≤ n) → (hm : m = dgV b n a i) → (hbd : (i ≤ 0 → m ≤ 0) ∧ (i ≤ 1 → m ≤ 9) ∧ (i ≤ 2 → m ≤ 99) ∧ (i ≤ 3 → m ≤ 999) ∧ m ≤ 9999 ∧ 0 ≤ m) → (hd : ∀ j, 0 ≤ j → j < i → isDg (sgn b n (a + j))) → (4 - i).toNat < nF → PW l w M_X12_one (d + nR + 3) 159 [some (vR 12 (0)), some (vI (byt b n a)), some (vI (nmIx (byt b n a))), some (vI (m)), some (vI (i))] [] (sF G 12 (0) 45 (p)) P := by
          intro nF
          induction nF with
          | zero => intro _ _ _ _ _ _ _ _ _ hM; exact absurd hM (Nat.not_lt_zero _)
          | succ nF ih159 =>
            intro i p m hi hp hpn hm hbd hd hM159
            have hbq := byt_sgn b n p
            refine pw_iload r_12_one_159 rfl ?_
            refine pw_const r_12_one_161 ?_
            refine pw_icmp_ge r_12_one_162 (fun h162 => ?_) (fun h162 => ?_)
            · skip
              exact L212 (i) (p) (m) (by first | assumption | omega) (by first | assumption | omega) (by first | assumption | omega) (by first | assumption | omega) (by first | assumption | omega) (by first | (left; omega) | (right; rw [← hp]; unfold isDg; have := byt_sgn b n p; omega)) 
            · skip
              refine pw_aload r_12_one_165 rfl ?_
              refine pw_callV (av := []) (st := []) (ls0 := [some (vR 12 (0))]) r_12_one_166 rfl rfl rfl (Nat.le_refl _) ?_
              refine byO (n := n) (a := p) (bs := bs) (b := b) (by exact hb) (by first | exact hbs | (simp (disch := decide) only [gF_sF]; first | done | exact hbs | omega | (simp; first | done | omega))) (by first | assumption | exact hba | omega) (by first | exact hn | (simp (disch := decide) only [gF_sF]; first | done | exact hn | omega | (simp; first | done | omega))) (by first | assumption | exact hnn | omega) (by first | exact ha | rfl | (simp (disch := decide) only [gF_sF]; first | done | omega | (simp; first | done | omega))) (by first | assumption | exact haa | omega) ?_
              refine pw_const r_12_one_169 ?_
              refine pw_icmp_lt r_12_one_171 (fun h171 => ?_) (fun h171 => ?_)
              · skip
                exact L212 (i) (p) (m) (by first | assumption | omega) (by first | assumption | omega) (by first | assumption | omega) (by first | assumption | omega) (by first | assumption | omega) (by first | (left; omega) | (right; rw [← hp]; unfold isDg; have := byt_sgn b n p; omega)) 
              · skip
                refine pw_aload r_12_one_174 rfl ?_
                refine pw_callV (av := []) (st := []) (ls0 := [some (vR 12 (0))]) r_12_one_175 rfl rfl rfl (Nat.le_refl _) ?_
                refine byO (n := n) (a := p) (bs := bs) (b := b) (by exact hb) (by first | exact hbs | (simp (disch := decide) only [gF_sF]; first | done | exact hbs | omega | (simp; first | done | omega))) (by first | assumption | exact hba | omega) (by first | exact hn | (simp (disch := decide) only [gF_sF]; first | done | exact hn | omega | (simp; first | done | omega))) (by first | assumption | exact hnn | omega) (by first | exact ha | rfl | (simp (disch := decide) only [gF_sF]; first | done | omega | (simp; first | done | omega))) (by first | assumption | exact haa | omega) ?_
                refine pw_const r_12_one_178 ?_
                refine pw_icmp_gt r_12_one_180 (fun h180 => ?_) (fun h180 => ?_)
                · skip
                  exact L212 (i) (p) (m) (by first | assumption | omega) (by first | assumption | omega) (by first | assumption | omega) (by first | assumption | omega) (by first | assumption | omega) (by first | (left; omega) | (right; rw [← hp]; unfold isDg; have := byt_sgn b n p; omega)) 
                · skip
                  refine pw_const r_12_one_183 ?_
                  refine pw_iload r_12_one_185 rfl ?_
                  refine pw_imul r_12_one_186 (by omega) ?_
                  refine pw_aload r_12_one_187 rfl ?_
                  refine pw_callV (av := []) (st := [vI ((10 * m))]) (ls0 := [some (vR 12 (0))]) r_12_one_188 rfl rfl rfl (Nat.le_refl _) ?_
                  refine byO (n := n) (a := p) (bs := bs) (b := b) (by exact hb) (by first | exact hbs | (simp (disch := decide) only [gF_sF]; first | done | exact hbs | omega | (simp; first | done | omega))) (by first | assumption | exact hba | omega) (by first | exact hn | (simp (disch := decide) only [gF_sF]; first | done | exact hn | omega | (simp; first | done | omega))) (by first | assumption | exact hnn | omega) (by first | exact ha | rfl | (simp (disch := decide) only [gF_sF]; first | done | omega | (simp; first | done | omega))) (by first | assumption | exact haa | omega) ?_
                  refine pw_iadd r_12_one_191 (by omega) ?_
                  refine pw_const r_12_one_192 ?_
                  refine pw_isub r_12_one_194 (by omega) ?_
                  refine pw_istore (ls' := [some (vR 12 (0)), some (vI (byt b n a)), some (vI (nmIx (byt b n a))), some (vI ((((10 * m) + (byt b n p)) - 48))), some (vI (i))]) r_12_one_195 rfl rfl ?_
                  refine pw_iinc (b := 0) (ls' := [some (vR 12 (0)), some (vI (byt b n a)), some (vI (nmIx (byt b n a))), some (vI ((((10 * m) + (byt b n p)) - 48))), some (vI ((i + 1)))]) r_12_one_196 rfl rfl (by omega) rfl ?_
                  refine pw_aload r_12_one_199 rfl ?_
                  refine pw_dup r_12_one_200 rfl ?_
                  refine pw_getIv (v := p) r_12_one_201 fs_12_45 (by decide) (by first | rfl | simp [gF_sF, gF_sA, gF_uA, gF_sD, gA_sF, gA_sA, gA_uA, gA_sD, gD_sF, gD_sA, gD_uA, gD_sD]) ?_
                  refine pw_const r_12_one_204 ?_
                  refine pw_iadd r_12_one_205 (by omega) ?_
                  refine pw_putI r_12_one_206 (by decide +kernel) fs_12_45 (by decide) ?_
                  refine pw_goto r_12_one_209 ?_
                  refine pw_eqG (G' := sF G 12 (0) 45 ((p + 1))) (by first | rfl | (rw [uA_self]; done) | (rw [sA_uA]; done) | (rw [sA_eq]; done) | (simp (disch := decide) only [sA_uA, sA_uA_ne, uA_abs, uA_abs2, uA_uA]; done) | (simp (disch := decide) only [sA_eq, sA_uA, sA_uA_ne, uA_abs, uA_abs2, uA_uA]; done) | (refine PH_ext (fun _ _ _ => ?_) (fun _ _ _ => ?_) (fun _ _ _ => ?_) <;> simp only [gF_sF, gF_sA, gF_uA, gF_sD, gA_sF, gA_sA, gA_uA, gA_sD, gD_sF, gD_sA, gD_uA, gD_sD] <;> (repeat' split) <;> first | rfl | (exfalso; omega) | simp_all)) ?_
                  exact ih159 ((i + 1)) ((p + 1)) ((((10 * m) + (byt b n p)) - 48)) (by first | assumption | omega) (by first | assumption | omega) (by first | assumption | omega) (by rw [dgV_s b n a hi.1, ← hp, ← hm]; omega) (by first | assumption | omega) (fun j z1 z2 => by rcases (show j < i ∨ j = i by omega) with z | z; exact hd j z1 z; rw [z, ← hp]; unfold isDg; omega) (by omega)
        refine pw_eqG (G' := sF G 12 (0) 45 (a)) ((sF_idv ha).symm) ?_
        exact L159 _ (0) (a) (0) (by first | assumption | omega) (by first | assumption | omega) (by first | assumption | omega) ((dgV_0 b n a).symm) (by first | assumption | omega) (fun j z1 z2 => by omega) (Nat.lt_succ_self _)
      · skip
        refine pw_aload r_12_one_137 rfl ?_
        refine pw_dup r_12_one_138 rfl ?_
        refine pw_getI r_12_one_139 fs_12_45 (by decide) ?_
        refine pw_top (b := a) (ha) ?_
        refine pw_const r_12_one_142 ?_
        refine pw_iadd r_12_one_143 (by omega) ?_
        refine pw_putI r_12_one_144 (by decide +kernel) fs_12_45 (by decide) ?_
        refine pw_aload r_12_one_147 rfl ?_
        refine pw_getR r_12_one_148 fs_12_49 (by decide) ?_
        refine pw_iload r_12_one_151 rfl ?_
        refine pw_ialdv (v := gA G 235 (0) (nmIx (byt b n a))) r_12_one_152 sh235 (by have := nmIx_lt (byt b n a); omega) (by have := nmIx_lt (byt b n a); omega) (by first | rfl | simp [gF_sF, gF_sA, gF_uA, gF_sD, gA_sF, gA_sA, gA_uA, gA_sD, gD_sF, gD_sA, gD_uA, gD_sD]) ?_
        refine pw_iret r_12_one_153 rfl (Nat.le_refl _) ⟨rfl, ?_⟩
        have hal : a < n := by
          rcases hbp with z | z
          · exact z.2
          · exfalso
            have y := h134
            rw [z.1] at y
            exact absurd y (by decide)
        rw [show sF G 12 0 45 (a + 1) = sF (sF G 12 0 45 (a + 1)) 12 0 48 o from (sF_idv (by first | exact hop | (simp (disch := decide) only [gF_sF]; first | exact hop | (simp; exact hop)))).symm]
        exact pe (h2 (a + 1) (fun e0 => e0 (nmIx (sgn b n a))) (EvX_name (by omega)) (by omega) (by omega)) (by show _ = e (nmIx (sgn b n a)); rw [hnb]; exact hve _ (by omega) (nmIx_lt _))
    · skip
      refine pw_aload r_12_one_26 rfl ?_
      refine pw_getI r_12_one_27 fs_12_48 (by decide) ?_
      refine pw_top (b := o) (hop) ?_
      refine pw_const r_12_one_30 ?_
      refine pw_icmp_ne r_12_one_32 (fun h32 => ?_) (fun h32 => ?_)
      · skip
        refine pw_aload r_12_one_40 rfl ?_
        refine pw_dup r_12_one_41 rfl ?_
        refine pw_getI r_12_one_42 fs_12_48 (by decide) ?_
        refine pw_top (b := o) (hop) ?_
        refine pw_const r_12_one_45 ?_
        refine pw_iadd r_12_one_46 (by omega) ?_
        refine pw_putI r_12_one_47 (by decide +kernel) fs_12_48 (by decide) ?_
        refine pw_aload r_12_one_50 rfl ?_
        refine pw_dup r_12_one_51 rfl ?_
        refine pw_getIv (v := gF G 12 (0) 45) r_12_one_52 fs_12_45 (by decide) (by first | rfl | simp [gF_sF, gF_sA, gF_uA, gF_sD, gA_sF, gA_sA, gA_uA, gA_sD, gD_sF, gD_sA, gD_uA, gD_sD]) ?_
        refine pw_top (b := a) (ha) ?_
        refine pw_const r_12_one_55 ?_
        refine pw_iadd r_12_one_56 (by omega) ?_
        refine pw_putI r_12_one_57 (by decide +kernel) fs_12_45 (by decide) ?_
        refine pw_iload r_12_one_60 rfl ?_
        refine pw_const r_12_one_61 ?_
        refine pw_icmp_ne r_12_one_63 (fun h63 => ?_) (fun h63 => ?_)
        · skip
          have h33 : sgn b n a = 33 := by omega
          refine pw_aload r_12_one_73 rfl ?_
          refine pw_callV (av := []) (st := []) (ls0 := [some (vR 12 (0)), none, none, none, none]) r_12_one_74 rfl rfl rfl (Nat.le_refl _) ?_
          refine ihR (d := d) (o := (o + 1)) (n := n) (a := (a + 1)) (bs := bs) (b := b) (e := e) (by omega) (by exact hb) (by first | exact hbs | (simp (disch := decide) only [gF_sF]; first | done | exact hbs | omega | (simp; first | done | omega))) (by first | assumption | exact hba | omega) (by first | exact hn | (simp (disch := decide) only [gF_sF]; first | done | exact hn | omega | (simp; first | done | omega))) (by first | assumption | exact hnn | omega) (by first | exact ha | rfl | (simp (disch := decide) only [gF_sF]; first | done | omega | (simp; first | done | omega))) (by first | assumption | exact haa | omega) (by first | exact hf | (simp (disch := decide) only [gF_sF]; first | done | exact hf | omega | (simp; first | done | omega))) (by first | assumption | exact ho | omega) (by first | exact hop | (simp (disch := decide) only [gF_sF]; first | done | exact hop | omega | (simp; first | done | omega))) (by exact hve) ?_ ?_
          · skip
            intro f1 v1 x1 q1 q2 q3 q4 q5
            refine pw_istore (ls' := [some (vR 12 (0)), some (vI (byt b n a)), some (vI (v1)), none, none]) r_12_one_77 rfl rfl ?_
            refine pw_iload r_12_one_78 rfl ?_
            refine pw_const r_12_one_79 ?_
            refine pw_icmp_ne r_12_one_81 (fun h81 => ?_) (fun h81 => absurd h81 (by omega))
            refine pw_aload r_12_one_98 rfl ?_
            refine pw_dup r_12_one_99 rfl ?_
            refine pw_getIv (v := x1) r_12_one_100 fs_12_48 (by decide) (by first | rfl | simp [gF_sF, gF_sA, gF_uA, gF_sD, gA_sF, gA_sA, gA_uA, gA_sD, gD_sF, gD_sA, gD_uA, gD_sD]) ?_
            refine pw_const r_12_one_103 ?_
            refine pw_isub r_12_one_104 (by omega) ?_
            refine pw_putI r_12_one_105 (by decide +kernel) fs_12_48 (by decide) ?_
            refine pw_iload r_12_one_108 rfl ?_
            refine pw_const r_12_one_109 ?_
            refine pw_icmp_ne r_12_one_111 (fun h111 => ?_) (fun h111 => absurd h111 (by omega))
            refine pw_iload r_12_one_118 rfl ?_
            refine pw_if_ne r_12_one_119 (fun h119 => ?_) (fun h119 => ?_)
            · skip
              refine pw_const r_12_one_126 ?_
              refine pw_eqG (G' := sF (sF (sF G 12 (0) 45 (f1)) 12 (0) 48 ((x1 - 1))) 12 (0) 47 (f1)) (by first | rfl | (rw [uA_self]; done) | (rw [sA_uA]; done) | (rw [sA_eq]; done) | (simp (disch := decide) only [sA_uA, sA_uA_ne, uA_abs, uA_abs2, uA_uA]; done) | (simp (disch := decide) only [sA_eq, sA_uA, sA_uA_ne, uA_abs, uA_abs2, uA_uA]; done) | (refine PH_ext (fun _ _ _ => ?_) (fun _ _ _ => ?_) (fun _ _ _ => ?_) <;> simp only [gF_sF, gF_sA, gF_uA, gF_sD, gA_sF, gA_sA, gA_uA, gA_sD, gD_sF, gD_sA, gD_uA, gD_sD] <;> (repeat' split) <;> first | rfl | (exfalso; omega) | simp_all)) ?_
              refine pw_iret r_12_one_127 rfl (Nat.le_refl _) ⟨rfl, ?_⟩
              exact h1 f1 _ (x1 - 1) (EvX_notF h33 (by omega) q1) (by omega) (by omega) (by omega) (by omega)
            · skip
              refine pw_const r_12_one_122 ?_
              refine pw_goto r_12_one_123 ?_
              refine pw_eqG (G' := sF (sF (sF G 12 (0) 45 (f1)) 12 (0) 48 ((x1 - 1))) 12 (0) 47 (f1)) (by first | rfl | (rw [uA_self]; done) | (rw [sA_uA]; done) | (rw [sA_eq]; done) | (simp (disch := decide) only [sA_uA, sA_uA_ne, uA_abs, uA_abs2, uA_uA]; done) | (simp (disch := decide) only [sA_eq, sA_uA, sA_uA_ne, uA_abs, uA_abs2, uA_uA]; done) | (refine PH_ext (fun _ _ _ => ?_) (fun _ _ _ => ?_) (fun _ _ _ => ?_) <;> simp only [gF_sF, gF_sA, gF_uA, gF_sD, gA_sF, gA_sA, gA_uA, gA_sD, gD_sF, gD_sA, gD_uA, gD_sD] <;> (repeat' split) <;> first | rfl | (exfalso; omega) | simp_all)) ?_
              refine pw_iret r_12_one_127 rfl (Nat.le_refl _) ⟨rfl, ?_⟩
              exact h1 f1 _ (x1 - 1) (EvX_notF h33 (by omega) q1) (by omega) (by omega) (by omega) (by omega)
          · skip
            intro a1 s1 q1 q2 q3
            refine pw_istore (ls' := [some (vR 12 (0)), some (vI (byt b n a)), some (vI (s1 e)), none, none]) r_12_one_77 rfl rfl ?_
            refine pw_iload r_12_one_78 rfl ?_
            refine pw_const r_12_one_79 ?_
            refine pw_icmp_ne r_12_one_81 (fun h81 => ?_) (fun h81 => absurd h81 (by omega))
            refine pw_aload r_12_one_98 rfl ?_
            refine pw_dup r_12_one_99 rfl ?_
            refine pw_getIv (v := (o + 1)) r_12_one_100 fs_12_48 (by decide) (by first | rfl | simp [gF_sF, gF_sA, gF_uA, gF_sD, gA_sF, gA_sA, gA_uA, gA_sD, gD_sF, gD_sA, gD_uA, gD_sD]) ?_
            refine pw_const r_12_one_103 ?_
            refine pw_isub r_12_one_104 (by omega) ?_
            refine pw_top (b := o) (by omega) ?_
            refine pw_putI r_12_one_105 (by decide +kernel) fs_12_48 (by decide) ?_
            refine pw_iload r_12_one_108 rfl ?_
            refine pw_const r_12_one_109 ?_
            refine pw_icmp_ne r_12_one_111 (fun h111 => ?_) (fun h111 => absurd h111 (by omega))
            refine pw_iload r_12_one_118 rfl ?_
            refine pw_if_ne r_12_one_119 (fun h119 => ?_) (fun h119 => ?_)
            · skip
              refine pw_const r_12_one_126 ?_
              refine pw_eqG (G' := sF (sF G 12 (0) 45 (a1)) 12 (0) 48 (o)) (by first | rfl | (rw [uA_self]; done) | (rw [sA_uA]; done) | (rw [sA_eq]; done) | (simp (disch := decide) only [sA_uA, sA_uA_ne, uA_abs, uA_abs2, uA_uA]; done) | (simp (disch := decide) only [sA_eq, sA_uA, sA_uA_ne, uA_abs, uA_abs2, uA_uA]; done) | (refine PH_ext (fun _ _ _ => ?_) (fun _ _ _ => ?_) (fun _ _ _ => ?_) <;> simp only [gF_sF, gF_sA, gF_uA, gF_sD, gA_sF, gA_sA, gA_uA, gA_sD, gD_sF, gD_sA, gD_uA, gD_sD] <;> (repeat' split) <;> first | rfl | (exfalso; omega) | simp_all)) ?_
              refine pw_iret r_12_one_127 rfl (Nat.le_refl _) ⟨rfl, ?_⟩
              exact pe (h2 a1 _ (EvX_not h33 (by omega) q1) (by omega) (by omega)) (by first | exact (b2i_t (by omega)).symm | exact (b2i_f (by omega)).symm)
            · skip
              refine pw_const r_12_one_122 ?_
              refine pw_goto r_12_one_123 ?_
              refine pw_eqG (G' := sF (sF G 12 (0) 45 (a1)) 12 (0) 48 (o)) (by first | rfl | (rw [uA_self]; done) | (rw [sA_uA]; done) | (rw [sA_eq]; done) | (simp (disch := decide) only [sA_uA, sA_uA_ne, uA_abs, uA_abs2, uA_uA]; done) | (simp (disch := decide) only [sA_eq, sA_uA, sA_uA_ne, uA_abs, uA_abs2, uA_uA]; done) | (refine PH_ext (fun _ _ _ => ?_) (fun _ _ _ => ?_) (fun _ _ _ => ?_) <;> simp only [gF_sF, gF_sA, gF_uA, gF_sD, gA_sF, gA_sA, gA_uA, gA_sD, gD_sF, gD_sA, gD_uA, gD_sD] <;> (repeat' split) <;> first | rfl | (exfalso; omega) | simp_all)) ?_
              refine pw_iret r_12_one_127 rfl (Nat.le_refl _) ⟨rfl, ?_⟩
              exact pe (h2 a1 _ (EvX_not h33 (by omega) q1) (by omega) (by omega)) (by first | exact (b2i_t (by omega)).symm | exact (b2i_f (by omega)).symm)
        · skip
          have h40 : sgn b n a = 40 := by omega
          refine pw_aload r_12_one_66 rfl ?_
          refine pw_callV (av := []) (st := []) (ls0 := [some (vR 12 (0)), none, none]) r_12_one_67 rfl rfl rfl (Nat.le_refl _) ?_
          refine ih0 (d := d) (o := (o + 1)) (n := n) (a := (a + 1)) (bs := bs) (b := b) (e := e) (by omega) (by exact hb) (by first | exact hbs | (simp (disch := decide) only [gF_sF]; first | done | exact hbs | omega | (simp; first | done | omega))) (by first | assumption | exact hba | omega) (by first | exact hn | (simp (disch := decide) only [gF_sF]; first | done | exact hn | omega | (simp; first | done | omega))) (by first | assumption | exact hnn | omega) (by first | exact ha | rfl | (simp (disch := decide) only [gF_sF]; first | done | omega | (simp; first | done | omega))) (by first | assumption | exact haa | omega) (by first | exact hf | (simp (disch := decide) only [gF_sF]; first | done | exact hf | omega | (simp; first | done | omega))) (by first | assumption | exact ho | omega) (by first | exact hop | (simp (disch := decide) only [gF_sF]; first | done | exact hop | omega | (simp; first | done | omega))) (by exact hve) ?_ ?_
          · skip
            intro f1 v1 x1 q1 q2 q3 q4 q5
            refine pw_goto r_12_one_70 ?_
            refine pw_istore (ls' := [some (vR 12 (0)), some (vI (byt b n a)), some (vI (v1)), none, none]) r_12_one_77 rfl rfl ?_
            refine pw_iload r_12_one_78 rfl ?_
            refine pw_const r_12_one_79 ?_
            refine pw_icmp_ne r_12_one_81 (fun h81 => absurd h81 (by omega)) (fun h81 => ?_)
            refine pw_aload r_12_one_84 rfl ?_
            refine pw_const r_12_one_85 ?_
            refine pw_callV (av := [vI (41)]) (st := []) (ls0 := [some (vR 12 (0)), some (vI (41))]) r_12_one_87 rfl rfl rfl (Nat.le_refl _) ?_
            refine tkF (by first | (show 0 ≤ f1; omega) | (simp (disch := decide) only [gF_sF]; first | done | omega | (simp; first | done | omega))) ?_
            refine pw_if_ne r_12_one_90 (fun h90 => absurd h90 (by decide)) (fun h90 => ?_)
            refine pw_aload r_12_one_93 rfl ?_
            refine pw_callV (av := []) (st := []) (ls0 := [some (vR 12 (0))]) r_12_one_94 rfl rfl rfl (Nat.le_refl _) ?_
            refine wrF (by first | (show 0 ≤ f1; omega) | (simp (disch := decide) only [gF_sF]; first | done | omega | (simp; first | done | omega))) ?_
            refine pw_eqG (G' := sF (sF (sF G 12 (0) 45 (f1)) 12 (0) 48 (x1)) 12 (0) 47 (f1)) (by first | rfl | (rw [uA_self]; done) | (rw [sA_uA]; done) | (rw [sA_eq]; done) | (simp (disch := decide) only [sA_uA, sA_uA_ne, uA_abs, uA_abs2, uA_uA]; done) | (simp (disch := decide) only [sA_eq, sA_uA, sA_uA_ne, uA_abs, uA_abs2, uA_uA]; done) | (refine PH_ext (fun _ _ _ => ?_) (fun _ _ _ => ?_) (fun _ _ _ => ?_) <;> simp only [gF_sF, gF_sA, gF_uA, gF_sD, gA_sF, gA_sA, gA_uA, gA_sD, gD_sF, gD_sA, gD_uA, gD_sD] <;> (repeat' split) <;> first | rfl | (exfalso; omega) | simp_all)) ?_
            refine pw_iret r_12_one_97 rfl (Nat.le_refl _) ⟨rfl, ?_⟩
            exact h1 f1 _ x1 (EvX_parF h40 (by omega) q1) (by omega) (by omega) (by omega) q5
          · skip
            intro a1 s1 q1 q2 q3
            have hb1 := byt_sgn b n a1
            refine pw_goto r_12_one_70 ?_
            refine pw_istore (ls' := [some (vR 12 (0)), some (vI (byt b n a)), some (vI (s1 e)), none, none]) r_12_one_77 rfl rfl ?_
            refine pw_iload r_12_one_78 rfl ?_
            refine pw_const r_12_one_79 ?_
            refine pw_icmp_ne r_12_one_81 (fun h81 => absurd h81 (by omega)) (fun h81 => ?_)
            refine pw_aload r_12_one_84 rfl ?_
            refine pw_const r_12_one_85 ?_
            refine pw_callV (av := [vI (41)]) (st := []) (ls0 := [some (vR 12 (0)), some (vI (41))]) r_12_one_87 rfl rfl rfl (Nat.le_refl _) ?_
            refine tkO (n := n) (a := a1) (bs := bs) (b := b) (by exact hb) (by first | exact hbs | (simp (disch := decide) only [gF_sF]; first | done | exact hbs | omega | (simp; first | done | omega))) (by first | assumption | exact hba | omega) (by first | exact hn | (simp (disch := decide) only [gF_sF]; first | done | exact hn | omega | (simp; first | done | omega))) (by first | assumption | exact hnn | omega) (by first | exact ha | rfl | (simp (disch := decide) only [gF_sF]; first | done | omega | (simp; first | done | omega))) (by first | assumption | exact haa | omega) (by first | exact hf | (simp (disch := decide) only [gF_sF]; first | done | exact hf | omega | (simp; first | done | omega))) ?_ ?_
            · skip
              intro q9
              refine pw_if_ne r_12_one_90 (fun h90 => absurd h90 (by decide)) (fun h90 => ?_)
              refine pw_aload r_12_one_93 rfl ?_
              refine pw_callV (av := []) (st := []) (ls0 := [some (vR 12 (0))]) r_12_one_94 rfl rfl rfl (Nat.le_refl _) ?_
              refine wrO (a := a1) (by first | exact ha | rfl | (simp (disch := decide) only [gF_sF]; first | done | omega | (simp; first | done | omega))) (by first | exact hf | (simp (disch := decide) only [gF_sF]; first | done | exact hf | omega | (simp; first | done | omega))) ?_
              refine pw_eqG (G' := sF (sF (sF G 12 (0) 45 (a1)) 12 (0) 48 ((o + 1))) 12 (0) 47 (a1)) (by first | rfl | (rw [uA_self]; done) | (rw [sA_uA]; done) | (rw [sA_eq]; done) | (simp (disch := decide) only [sA_uA, sA_uA_ne, uA_abs, uA_abs2, uA_uA]; done) | (simp (disch := decide) only [sA_eq, sA_uA, sA_uA_ne, uA_abs, uA_abs2, uA_uA]; done) | (refine PH_ext (fun _ _ _ => ?_) (fun _ _ _ => ?_) (fun _ _ _ => ?_) <;> simp only [gF_sF, gF_sA, gF_uA, gF_sD, gA_sF, gA_sA, gA_uA, gA_sD, gD_sF, gD_sA, gD_uA, gD_sD] <;> (repeat' split) <;> first | rfl | (exfalso; omega) | simp_all)) ?_
              refine pw_iret r_12_one_97 rfl (Nat.le_refl _) ⟨rfl, ?_⟩
              exact h1 a1 0 (o + 1) (EvX_parN h40 (by omega) q1 (by omega)) (by omega) (by omega) (by omega) (by omega)
            · skip
              intro q9
              refine pw_if_ne r_12_one_90 (fun h90 => ?_) (fun h90 => absurd h90 (by decide))
              refine pw_aload r_12_one_98 rfl ?_
              refine pw_dup r_12_one_99 rfl ?_
              refine pw_getIv (v := (o + 1)) r_12_one_100 fs_12_48 (by decide) (by first | rfl | simp [gF_sF, gF_sA, gF_uA, gF_sD, gA_sF, gA_sA, gA_uA, gA_sD, gD_sF, gD_sA, gD_uA, gD_sD]) ?_
              refine pw_const r_12_one_103 ?_
              refine pw_isub r_12_one_104 (by omega) ?_
              refine pw_top (b := o) (by omega) ?_
              refine pw_putI r_12_one_105 (by decide +kernel) fs_12_48 (by decide) ?_
              refine pw_iload r_12_one_108 rfl ?_
              refine pw_const r_12_one_109 ?_
              refine pw_icmp_ne r_12_one_111 (fun h111 => absurd h111 (by omega)) (fun h111 => ?_)
              refine pw_iload r_12_one_114 rfl ?_
              refine pw_goto r_12_one_115 ?_
              refine pw_eqG (G' := sF (sF G 12 (0) 45 (a1 + 1)) 12 (0) 48 (o)) (by first | rfl | (rw [uA_self]; done) | (rw [sA_uA]; done) | (rw [sA_eq]; done) | (simp (disch := decide) only [sA_uA, sA_uA_ne, uA_abs, uA_abs2, uA_uA]; done) | (simp (disch := decide) only [sA_eq, sA_uA, sA_uA_ne, uA_abs, uA_abs2, uA_uA]; done) | (refine PH_ext (fun _ _ _ => ?_) (fun _ _ _ => ?_) (fun _ _ _ => ?_) <;> simp only [gF_sF, gF_sA, gF_uA, gF_sD, gA_sF, gA_sA, gA_uA, gA_sD, gD_sF, gD_sA, gD_uA, gD_sD] <;> (repeat' split) <;> first | rfl | (exfalso; omega) | simp_all)) ?_
              refine pw_iret r_12_one_127 rfl (Nat.le_refl _) ⟨rfl, ?_⟩
              exact h2 (a1 + 1) s1 (EvX_par h40 (by omega) q1 (by omega)) (by omega) (by omega)
      · skip
        refine pw_aload r_12_one_35 rfl ?_
        refine pw_callV (av := []) (st := []) (ls0 := [some (vR 12 (0))]) r_12_one_36 rfl rfl rfl (Nat.le_refl _) ?_
        refine wrO (a := a) (by first | exact ha | rfl | (simp (disch := decide) only [gF_sF]; first | done | omega | (simp; first | done | omega))) (by first | exact hf | (simp (disch := decide) only [gF_sF]; first | done | exact hf | omega | (simp; first | done | omega))) ?_
        refine pw_iret r_12_one_39 rfl (Nat.le_refl _) ⟨rfl, ?_⟩
        rw [show sF G 12 0 47 a = sF (sF (sF G 12 0 45 a) 12 0 48 o) 12 0 47 a by rw [sF_idv ha, sF_idv hop]]
        exact h1 a 0 o (EvX_deep (by omega) (by omega)) (by omega) (by omega) (by omega) (by omega)
theorem mreaders {l : Launch} {w : Wo} : ∀ n0 : Nat, (∀ {d : Nat} {G : PH} {P : Option PV → PH → Prop} {o n a bs : Int} {b e : Int → Int}, (10 * (8 - o) + 8 < (n0 : Int)) → (∀ j, 0 ≤ j → j < n → b j = if bs < 0 then gA G 228 0 j else gA G 229 0 (bs + j)) → ((gF G 12 0 44) = bs) → (bs ≤ 3040) → ((gF G 12 0 46) = n) → (0 ≤ n ∧ n ≤ 160) → ((gF G 12 0 45) = a) → (0 ≤ a ∧ a ≤ n) → ((gF G 12 0 47) < 0) → (0 ≤ o ∧ o ≤ 8) → ((gF G 12 0 48) = o) → (∀ j, 0 ≤ j → j < 9 → (gA G 235 0 (j)) = e j) → (∀ f v x, EvX b n 0 o a none (.inl f) → a ≤ f → f ≤ n → o ≤ x → x ≤ 8 → P (some (vI v)) (sF (sF (sF G 12 0 45 f) 12 0 48 x) 12 0 47 f)) → (∀ a1 s1, EvX b n 0 o a none (.inr (a1, s1)) → a ≤ a1 → a1 ≤ n → P (some (vI (s1 e))) (sF (sF G 12 0 45 a1) 12 0 48 o)) → PW l w M_X12_either (d + n0 + 2) 0 [some (vR 12 (0)), none, none] [] G P) ∧ (∀ {d : Nat} {G : PH} {P : Option PV → PH → Prop} {o n a bs : Int} {b e : Int → Int}, (10 * (8 - o) + 7 < (n0 : Int)) → (∀ j, 0 ≤ j → j < n → b j = if bs < 0 then gA G 228 0 j else gA G 229 0 (bs + j)) → ((gF G 12 0 44) = bs) → (bs ≤ 3040) → ((gF G 12 0 46) = n) → (0 ≤ n ∧ n ≤ 160) → ((gF G 12 0 45) = a) → (0 ≤ a ∧ a ≤ n) → ((gF G 12 0 47) < 0) → (0 ≤ o ∧ o ≤ 8) → ((gF G 12 0 48) = o) → (∀ j, 0 ≤ j → j < 9 → (gA G 235 0 (j)) = e j) → (∀ f v x, EvX b n 1 o a none (.inl f) → a ≤ f → f ≤ n → o ≤ x → x ≤ 8 → P (some (vI v)) (sF (sF (sF G 12 0 45 f) 12 0 48 x) 12 0 47 f)) → (∀ a1 s1, EvX b n 1 o a none (.inr (a1, s1)) → a ≤ a1 → a1 ≤ n → P (some (vI (s1 e))) (sF (sF G 12 0 45 a1) 12 0 48 o)) → PW l w M_X12_both (d + n0 + 2) 0 [some (vR 12 (0)), none, none] [] G P) ∧ (∀ {d : Nat} {G : PH} {P : Option PV → PH → Prop} {o n a bs : Int} {b e : Int → Int}, (10 * (8 - o) + 6 < (n0 : Int)) → (∀ j, 0 ≤ j → j < n → b j = if bs < 0 then gA G 228 0 j else gA G 229 0 (bs + j)) → ((gF G 12 0 44) = bs) → (bs ≤ 3040) → ((gF G 12 0 46) = n) → (0 ≤ n ∧ n ≤ 160) → ((gF G 12 0 45) = a) → (0 ≤ a ∧ a ≤ n) → ((gF G 12 0 47) < 0) → (0 ≤ o ∧ o ≤ 8) → ((gF G 12 0 48) = o) → (∀ j, 0 ≤ j → j < 9 → (gA G 235 0 (j)) = e j) → (∀ f v x, EvX b n 2 o a none (.inl f) → a ≤ f → f ≤ n → o ≤ x → x ≤ 8 → P (some (vI v)) (sF (sF (sF G 12 0 45 f) 12 0 48 x) 12 0 47 f)) → (∀ a1 s1, EvX b n 2 o a none (.inr (a1, s1)) → a ≤ a1 → a1 ≤ n → P (some (vI (s1 e))) (sF (sF G 12 0 45 a1) 12 0 48 o)) → PW l w M_X12_compared (d + n0 + 2) 0 [some (vR 12 (0)), none, none, none] [] G P) ∧ (∀ {d : Nat} {G : PH} {P : Option PV → PH → Prop} {o n a bs : Int} {b e : Int → Int}, (10 * (8 - o) + 5 < (n0 : Int)) → (∀ j, 0 ≤ j → j < n → b j = if bs < 0 then gA G 228 0 j else gA G 229 0 (bs + j)) → ((gF G 12 0 44) = bs) → (bs ≤ 3040) → ((gF G 12 0 46) = n) → (0 ≤ n ∧ n ≤ 160) → ((gF G 12 0 45) = a) → (0 ≤ a ∧ a ≤ n) → ((gF G 12 0 47) < 0) → (0 ≤ o ∧ o ≤ 8) → ((gF G 12 0 48) = o) → (∀ j, 0 ≤ j → j < 9 → (gA G 235 0 (j)) = e j) → (∀ f v x, EvX b n 3 o a none (.inl f) → a ≤ f → f ≤ n → o ≤ x → x ≤ 8 → P (some (vI v)) (sF (sF (sF G 12 0 45 f) 12 0 48 x) 12 0 47 f)) → (∀ a1 s1, EvX b n 3 o a none (.inr (a1, s1)) → a ≤ a1 → a1 ≤ n → P (some (vI (s1 e))) (sF (sF G 12 0 45 a1) 12 0 48 o)) → PW l w M_X12_sums (d + n0 + 2) 0 [some (vR 12 (0)), none, none, none] [] G P) ∧ (∀ {d : Nat} {G : PH} {P : Option PV → PH → Prop} {o n a bs : Int} {b e : Int → Int}, (10 * (8 - o) + 4 < (n0 : Int)) → (∀ j, 0 ≤ j → j < n → b j = if bs < 0 then gA G 228 0 j else gA G 229 0 (bs + j)) → ((gF G 12 0 44) = bs) → (bs ≤ 3040) → ((gF G 12 0 46) = n) → (0 ≤ n ∧ n ≤ 160) → ((gF G 12 0 45) = a) → (0 ≤ a ∧ a ≤ n) → ((gF G 12 0 47) < 0) → (0 ≤ o ∧ o ≤ 8) → ((gF G 12 0 48) = o) → (∀ j, 0 ≤ j → j < 9 → (gA G 235 0 (j)) = e j) → (∀ f v x, EvX b n 4 o a none (.inl f) → a ≤ f → f ≤ n → o ≤ x → x ≤ 8 → P (some (vI v)) (sF (sF (sF G 12 0 45 f) 12 0 48 x) 12 0 47 f)) → (∀ a1 s1, EvX b n 4 o a none (.inr (a1, s1)) → a ≤ a1 → a1 ≤ n → P (some (vI (s1 e))) (sF (sF G 12 0 45 a1) 12 0 48 o)) → PW l w M_X12_product (d + n0 + 2) 0 [some (vR 12 (0)), none, none, none] [] G P) ∧ (∀ {d : Nat} {G : PH} {P : Option PV → PH → Prop} {o n a bs : Int} {b e : Int → Int}, (10 * (8 - o) + 3 < (n0 : Int)) → (∀ j, 0 ≤ j → j < n → b j = if bs < 0 then gA G 228 0 j else gA G 229 0 (bs + j)) → ((gF G 12 0 44) = bs) → (bs ≤ 3040) → ((gF G 12 0 46) = n) → (0 ≤ n ∧ n ≤ 160) → ((gF G 12 0 45) = a) → (0 ≤ a ∧ a ≤ n) → ((gF G 12 0 47) < 0) → (0 ≤ o ∧ o ≤ 8) → ((gF G 12 0 48) = o) → (∀ j, 0 ≤ j → j < 9 → (gA G 235 0 (j)) = e j) → (∀ f v x, EvX b n 5 o a none (.inl f) → a ≤ f → f ≤ n → o ≤ x → x ≤ 8 → P (some (vI v)) (sF (sF (sF G 12 0 45 f) 12 0 48 x) 12 0 47 f)) → (∀ a1 s1, EvX b n 5 o a none (.inr (a1, s1)) → a ≤ a1 → a1 ≤ n → P (some (vI (s1 e))) (sF (sF G 12 0 45 a1) 12 0 48 o)) → PW l w M_X12_one (d + n0 + 2) 0 [some (vR 12 (0)), none, none, none, none] [] G P)
  | 0 => ⟨by intros; exfalso; omega, by intros; exfalso; omega, by intros; exfalso; omega, by intros; exfalso; omega, by intros; exfalso; omega, by intros; exfalso; omega⟩
  | n + 1 => ⟨sp_X12_either_s n (mreaders n).2.1, sp_X12_both_s n (mreaders n).2.2.1, sp_X12_compared_s n (mreaders n).2.2.2.1, sp_X12_sums_s n (mreaders n).2.2.2.2.1, sp_X12_product_s n (mreaders n).2.2.2.2.2, sp_X12_one_s n (mreaders n).1 (mreaders n).2.2.2.2.2⟩
theorem sp_X12_either {l : Launch} {w : Wo} : ∀ n0 : Nat, ∀ {d : Nat} {G : PH} {P : Option PV → PH → Prop} {o n a bs : Int} {b e : Int → Int}, (10 * (8 - o) + 8 < (n0 : Int)) → (∀ j, 0 ≤ j → j < n → b j = if bs < 0 then gA G 228 0 j else gA G 229 0 (bs + j)) → ((gF G 12 0 44) = bs) → (bs ≤ 3040) → ((gF G 12 0 46) = n) → (0 ≤ n ∧ n ≤ 160) → ((gF G 12 0 45) = a) → (0 ≤ a ∧ a ≤ n) → ((gF G 12 0 47) < 0) → (0 ≤ o ∧ o ≤ 8) → ((gF G 12 0 48) = o) → (∀ j, 0 ≤ j → j < 9 → (gA G 235 0 (j)) = e j) → (∀ f v x, EvX b n 0 o a none (.inl f) → a ≤ f → f ≤ n → o ≤ x → x ≤ 8 → P (some (vI v)) (sF (sF (sF G 12 0 45 f) 12 0 48 x) 12 0 47 f)) → (∀ a1 s1, EvX b n 0 o a none (.inr (a1, s1)) → a ≤ a1 → a1 ≤ n → P (some (vI (s1 e))) (sF (sF G 12 0 45 a1) 12 0 48 o)) → PW l w M_X12_either (d + n0 + 2) 0 [some (vR 12 (0)), none, none] [] G P := fun n0 => (mreaders n0).1
