/-- all rows of a kind -/
def uK (G : PH) (c : Nat) (f : Int → Int → Int) : PH := (G.1, fun c' => if c' = c then f else G.2.1 c', G.2.2)
theorem gF_uK (G : PH) (c : Nat) (f : Int → Int → Int) (c' : Nat) (r' : Int) (k' : Nat) : gF (uK G c f) c' r' k' = gF G c' r' k' := rfl
theorem gD_uK (G : PH) (c : Nat) (f : Int → Int → Int) (c' : Nat) (r' i' : Int) : gD (uK G c f) c' r' i' = gD G c' r' i' := rfl
theorem gA_uK (G : PH) (c : Nat) (f : Int → Int → Int) (c' : Nat) (r' i' : Int) : gA (uK G c f) c' r' i' = if c' = c then f r' i' else gA G c' r' i' := by
  unfold gA uK
  by_cases h : c' = c
  · simp [h]
  · simp [h]
theorem uK_self (G : PH) (c : Nat) : uK G c (fun r i => gA G c r i) = G := by
  refine PH_ext (fun _ _ _ => rfl) (fun c' r i => ?_) (fun _ _ _ => rfl)
  rw [gA_uK]
  by_cases h : c' = c
  · rw [if_pos h, h]
  · rw [if_neg h]
def upR (L : Int → Int → Int) (r : Int) (f : Int → Int) : Int → Int → Int := fun r' => if r' = r then f else L r'
theorem upR_same (L : Int → Int → Int) (r : Int) (f : Int → Int) : upR L r f r = f := if_pos rfl
theorem upR_ne {L : Int → Int → Int} {r r' : Int} {f : Int → Int} (h : r' ≠ r) : upR L r f r' = L r' := if_neg h
theorem upR_at (L : Int → Int → Int) (r : Int) (f : Int → Int) (r' i : Int) : upR L r f r' i = if r' = r then f i else L r' i := by
  unfold upR
  split <;> rfl
theorem upA_at (f : Int → Int) (i v j : Int) : upA f i v j = if j = i then v else f j := rfl
theorem tpl_step {G : PH} {L : Int → Int → Int} {ln sd ag un lt : Int → Int} {m n s a u : Int} : sF (sA (sA (sA (sA (uA (sF (uA (uA (uA (uA (uK G 49 (L)) 50 0 (ln)) 47 0 (sd)) 51 0 (ag)) 52 0 (un)) 5 0 0 (m)) 49 (m) (lt)) 50 0 (m) (n)) 47 0 (m) (s)) 51 0 (m) (a)) 52 0 (m) (u)) 5 0 0 (m + 1) = sF (uA (uA (uA (uA (uK G 49 (upR L m lt)) 50 0 (upA ln m n)) 47 0 (upA sd m s)) 51 0 (upA ag m a)) 52 0 (upA un m u)) 5 0 0 (m + 1) := by
  refine PH_ext (fun c r f => ?_) (fun c r i => ?_) (fun c r i => ?_)
  · simp only [gF_sF, gF_sA, gF_uA, gF_uK]
    by_cases h : c = 5 ∧ f = 0 ∧ r = 0
    · rw [if_pos h, if_pos h]
    · rw [if_neg h, if_neg h, if_neg h]
  · simp only [gA_sF, gA_sA, gA_uA, gA_uK, upA_at, upR_at]
    repeat' split
    all_goals first | rfl | omega | (exfalso; omega) | (simp_all; done)
  · rfl
theorem tpm_step {G : PH} {sd wd ag un : Int → Int} {m s w a u : Int} : sF (sA (sA (sA (sA (sF (uA (uA (uA (uA G 236 0 (sd)) 237 0 (wd)) 238 0 (ag)) 239 0 (un)) 12 0 55 (m)) 236 0 (m) (s)) 237 0 (m) (w)) 238 0 (m) (a)) 239 0 (m) (u)) 12 0 55 (m + 1) = sF (uA (uA (uA (uA G 236 0 (upA sd m s)) 237 0 (upA wd m w)) 238 0 (upA ag m a)) 239 0 (upA un m u)) 12 0 55 (m + 1) := by
  refine PH_ext (fun c r f => ?_) (fun c r i => ?_) (fun c r i => ?_)
  · simp only [gF_sF, gF_sA, gF_uA, gF_uK]
    by_cases h : c = 12 ∧ f = 55 ∧ r = 0
    · rw [if_pos h, if_pos h]
    · rw [if_neg h, if_neg h, if_neg h]
  · simp only [gA_sF, gA_sA, gA_uA, gA_uK, upA_at, upR_at]
    repeat' split
    all_goals first | rfl | omega | (exfalso; omega) | (simp_all; done)
  · rfl
def goodC (G : PH) (t p : Int) : Prop := ((gA G 57 (t) (p)) = (gF G 5 0 12) ∨ (0 ≤ (gA G 57 (t) (p)) ∧ (gA G 57 (t) (p)) ≤ 99)) ∧ ((gA G 57 (t) (p + 1)) = (gF G 5 0 12) ∨ (0 ≤ (gA G 57 (t) (p + 1)) ∧ (gA G 57 (t) (p + 1)) ≤ 99)) ∧ 1 ≤ (gA G 57 (t) (p + 2)) ∧ (gA G 57 (t) (p + 2)) ≤ 27
def goodM (G : PH) (t p : Int) : Prop := ((gA G 272 0 (60 * t + p)) = (gF G 12 0 57) ∨ (0 ≤ (gA G 272 0 (60 * t + p)) ∧ (gA G 272 0 (60 * t + p)) ≤ 99)) ∧ ((gA G 272 0 (60 * t + p + 1)) = (gF G 12 0 57) ∨ (0 ≤ (gA G 272 0 (60 * t + p + 1)) ∧ (gA G 272 0 (60 * t + p + 1)) ≤ 99)) ∧ 1 ≤ (gA G 272 0 (60 * t + p + 2)) ∧ (gA G 272 0 (60 * t + p + 2)) ≤ 27
def goC (G : PH) (t i j : Int) : Prop := 0 ≤ i ∧ i + 3 * j + 3 ≤ (gA G 59 0 (t)) ∧ (gF G 5 0 0) + j < 100 ∧ goodC G t (i + 3 * j)
def goM (G : PH) (t i j : Int) : Prop := 0 ≤ i ∧ i + 3 * j + 3 ≤ (gA G 271 0 (t)) ∧ (gF G 12 0 55) + j < 100 ∧ goodM G t (i + 3 * j)
def ListC (G : PH) (t i s k : Int) (L : Int → Int → Int) (ln sd ag un : Int → Int) : Prop :=
  (∀ r, r < (gF G 5 0 0) → L r = gA G 49 r ∧ ln r = (gA G 50 0 (r)) ∧ sd r = (gA G 47 0 (r)) ∧ ag r = (gA G 51 0 (r)) ∧ un r = (gA G 52 0 (r))) ∧
  ∀ j, 0 ≤ j → j < k → (0 ≤ ln ((gF G 5 0 0) + j) ∧ ln ((gF G 5 0 0) + j) ≤ 5 ∧ WordN (gA G 57 (t) (i + 3 * j + 2)) (ln ((gF G 5 0 0) + j))) ∧ (∀ x, 0 ≤ x → x < 5 → L ((gF G 5 0 0) + j) x = lft (gA G 57 (t) (i + 3 * j + 2)) x % 28) ∧ sd ((gF G 5 0 0) + j) = s ∧ (((gA G 57 (t) (i + 3 * j)) = (gF G 5 0 12) ∧ ag ((gF G 5 0 0) + j) = -1) ∨ ((gA G 57 (t) (i + 3 * j)) ≠ (gF G 5 0 12) ∧ ag ((gF G 5 0 0) + j) = (gA G 57 (t) (i + 3 * j)))) ∧ (((gA G 57 (t) (i + 3 * j + 1)) = (gF G 5 0 12) ∧ un ((gF G 5 0 0) + j) = -1) ∨ ((gA G 57 (t) (i + 3 * j + 1)) ≠ (gF G 5 0 12) ∧ un ((gF G 5 0 0) + j) = (gA G 57 (t) (i + 3 * j + 1))))
def ListM (G : PH) (t i s k : Int) (sd wd ag un : Int → Int) : Prop :=
  (∀ r, r < (gF G 12 0 55) → sd r = (gA G 236 0 (r)) ∧ wd r = (gA G 237 0 (r)) ∧ ag r = (gA G 238 0 (r)) ∧ un r = (gA G 239 0 (r))) ∧
  ∀ j, 0 ≤ j → j < k → sd ((gF G 12 0 55) + j) = s ∧ wd ((gF G 12 0 55) + j) = (gA G 272 0 (60 * t + (i + 3 * j) + 2)) ∧ (((gA G 272 0 (60 * t + (i + 3 * j))) = (gF G 12 0 57) ∧ ag ((gF G 12 0 55) + j) = -1) ∨ ((gA G 272 0 (60 * t + (i + 3 * j))) ≠ (gF G 12 0 57) ∧ ag ((gF G 12 0 55) + j) = (gA G 272 0 (60 * t + (i + 3 * j))))) ∧ (((gA G 272 0 (60 * t + (i + 3 * j) + 1)) = (gF G 12 0 57) ∧ un ((gF G 12 0 55) + j) = -1) ∨ ((gA G 272 0 (60 * t + (i + 3 * j) + 1)) ≠ (gF G 12 0 57) ∧ un ((gF G 12 0 55) + j) = (gA G 272 0 (60 * t + (i + 3 * j) + 1))))
theorem ListC_step {G : PH} {t i s k n a u : Int} {L : Int → Int → Int} {ln sd ag un lt : Int → Int} (hk : 0 ≤ k) (h : ListC G t i s k L ln sd ag un) (hn : 0 ≤ n ∧ n ≤ 5 ∧ WordN (gA G 57 (t) (i + 3 * k + 2)) n) (hl : ∀ x, 0 ≤ x → x < 5 → lt x = lft (gA G 57 (t) (i + 3 * k + 2)) x % 28) (ha : (((gA G 57 (t) (i + 3 * k)) = (gF G 5 0 12) ∧ a = -1) ∨ ((gA G 57 (t) (i + 3 * k)) ≠ (gF G 5 0 12) ∧ a = (gA G 57 (t) (i + 3 * k))))) (hu : (((gA G 57 (t) (i + 3 * k + 1)) = (gF G 5 0 12) ∧ u = -1) ∨ ((gA G 57 (t) (i + 3 * k + 1)) ≠ (gF G 5 0 12) ∧ u = (gA G 57 (t) (i + 3 * k + 1))))) :
    ListC G t i s (k + 1) (upR L ((gF G 5 0 0) + k) lt) (upA ln ((gF G 5 0 0) + k) n) (upA sd ((gF G 5 0 0) + k) s) (upA ag ((gF G 5 0 0) + k) a) (upA un ((gF G 5 0 0) + k) u) := by
  refine ⟨fun r hr => ?_, all_s (fun j x y => ?_) ?_⟩
  · have e : r ≠ (gF G 5 0 0) + k := by omega
    rw [upR_ne e, upA_ne e, upA_ne e, upA_ne e, upA_ne e]
    exact h.1 r hr
  · have e : (gF G 5 0 0) + j ≠ (gF G 5 0 0) + k := by omega
    rw [upR_ne e, upA_ne e, upA_ne e, upA_ne e, upA_ne e]
    exact h.2 j x y
  · rw [upR_same, upA_same, upA_same, upA_same, upA_same]
    exact ⟨hn, hl, rfl, ha, hu⟩
theorem ListM_step {G : PH} {t i s k a u : Int} {sd wd ag un : Int → Int} (hk : 0 ≤ k) (h : ListM G t i s k sd wd ag un) (ha : (((gA G 272 0 (60 * t + (i + 3 * k))) = (gF G 12 0 57) ∧ a = -1) ∨ ((gA G 272 0 (60 * t + (i + 3 * k))) ≠ (gF G 12 0 57) ∧ a = (gA G 272 0 (60 * t + (i + 3 * k)))))) (hu : (((gA G 272 0 (60 * t + (i + 3 * k) + 1)) = (gF G 12 0 57) ∧ u = -1) ∨ ((gA G 272 0 (60 * t + (i + 3 * k) + 1)) ≠ (gF G 12 0 57) ∧ u = (gA G 272 0 (60 * t + (i + 3 * k) + 1))))) :
    ListM G t i s (k + 1) (upA sd ((gF G 12 0 55) + k) s) (upA wd ((gF G 12 0 55) + k) (gA G 272 0 (60 * t + (i + 3 * k) + 2))) (upA ag ((gF G 12 0 55) + k) a) (upA un ((gF G 12 0 55) + k) u) := by
  refine ⟨fun r hr => ?_, all_s (fun j x y => ?_) ?_⟩
  · have e : r ≠ (gF G 12 0 55) + k := by omega
    rw [upA_ne e, upA_ne e, upA_ne e, upA_ne e]
    exact h.1 r hr
  · have e : (gF G 12 0 55) + j ≠ (gF G 12 0 55) + k := by omega
    rw [upA_ne e, upA_ne e, upA_ne e, upA_ne e]
    exact h.2 j x y
  · rw [upA_same, upA_same, upA_same, upA_same]
    exact ⟨rfl, rfl, ha, hu⟩

theorem wd_m5_57 : Cond.methodLink "NameRolls$Rolls" 57 M_X5_wordLength.1 ∈ UW := UW5_at 77 (by decide +kernel) rfl
theorem wd_f5_54 : Cond.fieldLink "NameRolls$Rolls" 54 "NameRolls$Rolls" "size" "I" ∈ UW := UW2_at 25 (by decide +kernel) rfl
theorem wd_f5_20 : Cond.fieldLink "NameRolls$Rolls" 20 "NameRolls$Rolls" "length" "[I" ∈ UW := UW2_at 29 (by decide +kernel) rfl
theorem wd_f5_11 : Cond.fieldLink "NameRolls$Rolls" 11 "NameRolls$Rolls" "sideOf" "[I" ∈ UW := UW2_at 27 (by decide +kernel) rfl
theorem wd_f5_23 : Cond.fieldLink "NameRolls$Rolls" 23 "NameRolls$Rolls" "ageOf" "[I" ∈ UW := UW2_at 30 (by decide +kernel) rfl
theorem wd_f5_26 : Cond.fieldLink "NameRolls$Rolls" 26 "NameRolls$Rolls" "unitOf" "[I" ∈ UW := UW2_at 31 (by decide +kernel) rfl
theorem wd_f5_17 : Cond.fieldLink "NameRolls$Rolls" 17 "NameRolls$Rolls" "letters" "[[I" ∈ UW := UW2_at 28 (by decide +kernel) rfl
theorem wd_f12_118 : Cond.fieldLink "NameRollsModel" 118 "NameRollsModel" "rowSide" "[I" ∈ UW := UW7_at 119 (by decide +kernel) rfl
theorem wd_f12_121 : Cond.fieldLink "NameRollsModel" 121 "NameRollsModel" "rowWord" "[I" ∈ UW := UW7_at 120 (by decide +kernel) rfl
theorem wd_f12_124 : Cond.fieldLink "NameRollsModel" 124 "NameRollsModel" "rowAge" "[I" ∈ UW := UW7_at 121 (by decide +kernel) rfl
theorem wd_f12_127 : Cond.fieldLink "NameRollsModel" 127 "NameRollsModel" "rowUnit" "[I" ∈ UW := UW7_at 122 (by decide +kernel) rfl
theorem wd_m12_399 : Cond.methodLink "NameRollsModel" 399 M_X12_isWord.1 ∈ UW := UW9_at 145 (by decide +kernel) rfl
theorem wd_m12_402 : Cond.methodLink "NameRollsModel" 402 M_X12_addRow.1 ∈ UW := UW9_at 148 (by decide +kernel) rfl
theorem wd_s12_addRow : Cond.selects M_X12_addRow.1.cls M_X12_addRow.1 M_X12_addRow.1 ∈ UW := UWp_at 86 (by decide +kernel) rfl
theorem wd_m5_112 : Cond.methodLink "NameRolls$Rolls" 112 M_X5_isToldOrBlank.1 ∈ UW := UW5_at 168 (by decide +kernel) rfl
theorem wd_s5_isToldOrBlank : Cond.selects M_X5_isToldOrBlank.1.cls M_X5_isToldOrBlank.1 M_X5_isToldOrBlank.1 ∈ UW := UWp_at 31 (by decide +kernel) rfl
theorem wd_m5_115 : Cond.methodLink "NameRolls$Rolls" 115 M_X5_addRow.1 ∈ UW := UW5_at 172 (by decide +kernel) rfl
theorem wd_s5_addRow : Cond.selects M_X5_addRow.1.cls M_X5_addRow.1 M_X5_addRow.1 ∈ UW := UW5_at 75 (by decide +kernel) rfl
theorem wd_m5_108 : Cond.methodLink "NameRolls$Rolls" 108 M_X5_takeThree.1 ∈ UW := UW5_at 164 (by decide +kernel) rfl
theorem wd_s5_takeThree : Cond.selects M_X5_takeThree.1.cls M_X5_takeThree.1 M_X5_takeThree.1 ∈ UW := UWp_at 30 (by decide +kernel) rfl
theorem wd_c12_431 : Cond.constantLong "NameRollsModel" 431 (Int64.ofInt 3) ∈ UW := UW9_at 198 (by decide +kernel) rfl
theorem wd_m11_160 : Cond.methodLink "NameRolls" 160 M_X5_addRow.1 ∈ UW := UW5_at 73 (by decide +kernel) rfl
theorem wd_m11_175 : Cond.methodLink "NameRolls" 175 M_X5_takeList.1 ∈ UW := UW5_at 157 (by decide +kernel) rfl
theorem wd_s5_takeList : Cond.selects M_X5_takeList.1.cls M_X5_takeList.1 M_X5_takeList.1 ∈ UW := UW5_at 159 (by decide +kernel) rfl
theorem r_5_wordLength_0 : RL M_X5_wordLength 0 0 1 := Or.inl ⟨0, by decide +kernel, rfl, rfl⟩
theorem r_5_wordLength_1 : RS M_X5_wordLength 1 1 2 := ⟨by decide, Or.inl ⟨1, by decide +kernel, rfl, rfl⟩⟩
theorem r_5_wordLength_2 : RC M_X5_wordLength 2 0 3 := ⟨⟨by decide, by decide⟩, Or.inl ⟨by decide +kernel, rfl⟩⟩
theorem r_5_wordLength_3 : RS M_X5_wordLength 3 2 4 := ⟨by decide, Or.inl ⟨2, by decide +kernel, rfl, rfl⟩⟩
theorem r_5_wordLength_4 : RC M_X5_wordLength 4 0 5 := ⟨⟨by decide, by decide⟩, Or.inl ⟨by decide +kernel, rfl⟩⟩
theorem r_5_wordLength_5 : RS M_X5_wordLength 5 3 6 := ⟨by decide, Or.inl ⟨3, by decide +kernel, rfl, rfl⟩⟩
theorem r_5_wordLength_6 : RL M_X5_wordLength 6 3 7 := Or.inl ⟨3, by decide +kernel, rfl, rfl⟩
theorem r_5_wordLength_7 : RC M_X5_wordLength 7 5 8 := ⟨⟨by decide, by decide⟩, Or.inl ⟨by decide +kernel, rfl⟩⟩
theorem r_5_wordLength_8 : RB M_X5_wordLength 8 (.if_icmp .ge) 38 11 := ⟨30, by decide +kernel, rfl, rfl⟩
theorem r_5_wordLength_38 : RL M_X5_wordLength 38 1 39 := Or.inl ⟨1, by decide +kernel, rfl, rfl⟩
theorem r_5_wordLength_39 : RB M_X5_wordLength 39 (.ifCond .ne) 50 42 := ⟨11, by decide +kernel, rfl, rfl⟩
theorem r_5_wordLength_50 : RC M_X5_wordLength 50 (-1) 51 := ⟨⟨by decide, by decide⟩, Or.inl ⟨by decide +kernel, rfl⟩⟩
theorem r_5_wordLength_51 : RW M_X5_wordLength 51 .ireturn 52 1 := ⟨by decide +kernel, rfl⟩
theorem r_5_wordLength_42 : RL M_X5_wordLength 42 2 43 := Or.inl ⟨2, by decide +kernel, rfl, rfl⟩
theorem r_5_wordLength_43 : RB M_X5_wordLength 43 (.ifCond .le) 50 46 := ⟨7, by decide +kernel, rfl, rfl⟩
theorem r_5_wordLength_46 : RL M_X5_wordLength 46 2 47 := Or.inl ⟨2, by decide +kernel, rfl, rfl⟩
theorem r_5_wordLength_47 : RB M_X5_wordLength 47 .goto 51 50 := ⟨4, by decide +kernel, rfl, rfl⟩
theorem r_5_wordLength_11 : RL M_X5_wordLength 11 1 12 := Or.inl ⟨1, by decide +kernel, rfl, rfl⟩
theorem r_5_wordLength_12 : RB M_X5_wordLength 12 (.ifCond .le) 38 15 := ⟨26, by decide +kernel, rfl, rfl⟩
theorem r_5_wordLength_15 : RL M_X5_wordLength 15 1 16 := Or.inl ⟨1, by decide +kernel, rfl, rfl⟩
theorem r_5_wordLength_16 : RC M_X5_wordLength 16 28 18 := ⟨⟨by decide, by decide⟩, Or.inr (Or.inl ⟨by decide +kernel, by decide, rfl⟩)⟩
theorem r_5_wordLength_18 : RW M_X5_wordLength 18 .irem 19 1 := ⟨by decide +kernel, rfl⟩
theorem r_5_wordLength_19 : RB M_X5_wordLength 19 (.ifCond .ne) 24 22 := ⟨5, by decide +kernel, rfl, rfl⟩
theorem r_5_wordLength_24 : RL M_X5_wordLength 24 1 25 := Or.inl ⟨1, by decide +kernel, rfl, rfl⟩
theorem r_5_wordLength_25 : RC M_X5_wordLength 25 28 27 := ⟨⟨by decide, by decide⟩, Or.inr (Or.inl ⟨by decide +kernel, by decide, rfl⟩)⟩
theorem r_5_wordLength_27 : RW M_X5_wordLength 27 .idiv 28 1 := ⟨by decide +kernel, rfl⟩
theorem r_5_wordLength_28 : RS M_X5_wordLength 28 1 29 := ⟨by decide, Or.inl ⟨1, by decide +kernel, rfl, rfl⟩⟩
theorem r_5_wordLength_29 : RI M_X5_wordLength 29 2 1 32 := ⟨by decide, by decide +kernel, rfl⟩
theorem r_5_wordLength_32 : RI M_X5_wordLength 32 3 1 35 := ⟨by decide, by decide +kernel, rfl⟩
theorem r_5_wordLength_35 : RB M_X5_wordLength 35 .goto 6 38 := ⟨(-29), by decide +kernel, rfl, rfl⟩
theorem r_5_wordLength_22 : RC M_X5_wordLength 22 (-1) 23 := ⟨⟨by decide, by decide⟩, Or.inl ⟨by decide +kernel, rfl⟩⟩
theorem r_5_wordLength_23 : RW M_X5_wordLength 23 .ireturn 24 1 := ⟨by decide +kernel, rfl⟩
theorem r_12_isWord_0 : RL M_X12_isWord 0 0 1 := Or.inl ⟨0, by decide +kernel, rfl, rfl⟩
theorem r_12_isWord_1 : RC M_X12_isWord 1 1 2 := ⟨⟨by decide, by decide⟩, Or.inl ⟨by decide +kernel, rfl⟩⟩
theorem r_12_isWord_2 : RB M_X12_isWord 2 (.if_icmp .ge) 7 5 := ⟨5, by decide +kernel, rfl, rfl⟩
theorem r_12_isWord_7 : RC M_X12_isWord 7 0 8 := ⟨⟨by decide, by decide⟩, Or.inl ⟨by decide +kernel, rfl⟩⟩
theorem r_12_isWord_8 : RS M_X12_isWord 8 1 9 := ⟨by decide, Or.inl ⟨1, by decide +kernel, rfl, rfl⟩⟩
theorem r_12_isWord_9 : RL M_X12_isWord 9 0 10 := Or.inl ⟨0, by decide +kernel, rfl, rfl⟩
theorem r_12_isWord_10 : RS M_X12_isWord 10 2 11 := ⟨by decide, Or.inl ⟨2, by decide +kernel, rfl, rfl⟩⟩
theorem r_12_isWord_11 : RL M_X12_isWord 11 2 12 := Or.inl ⟨2, by decide +kernel, rfl, rfl⟩
theorem r_12_isWord_12 : RB M_X12_isWord 12 (.ifCond .le) 35 15 := ⟨23, by decide +kernel, rfl, rfl⟩
theorem r_12_isWord_35 : RL M_X12_isWord 35 1 36 := Or.inl ⟨1, by decide +kernel, rfl, rfl⟩
theorem r_12_isWord_36 : RC M_X12_isWord 36 5 37 := ⟨⟨by decide, by decide⟩, Or.inl ⟨by decide +kernel, rfl⟩⟩
theorem r_12_isWord_37 : RB M_X12_isWord 37 (.if_icmp .gt) 44 40 := ⟨7, by decide +kernel, rfl, rfl⟩
theorem r_12_isWord_44 : RC M_X12_isWord 44 0 45 := ⟨⟨by decide, by decide⟩, Or.inl ⟨by decide +kernel, rfl⟩⟩
theorem r_12_isWord_45 : RW M_X12_isWord 45 .ireturn 46 1 := ⟨by decide +kernel, rfl⟩
theorem r_12_isWord_40 : RC M_X12_isWord 40 1 41 := ⟨⟨by decide, by decide⟩, Or.inl ⟨by decide +kernel, rfl⟩⟩
theorem r_12_isWord_41 : RB M_X12_isWord 41 .goto 45 44 := ⟨4, by decide +kernel, rfl, rfl⟩
theorem r_12_isWord_15 : RL M_X12_isWord 15 2 16 := Or.inl ⟨2, by decide +kernel, rfl, rfl⟩
theorem r_12_isWord_16 : RC M_X12_isWord 16 28 18 := ⟨⟨by decide, by decide⟩, Or.inr (Or.inl ⟨by decide +kernel, by decide, rfl⟩)⟩
theorem r_12_isWord_18 : RW M_X12_isWord 18 .irem 19 1 := ⟨by decide +kernel, rfl⟩
theorem r_12_isWord_19 : RB M_X12_isWord 19 (.ifCond .ne) 24 22 := ⟨5, by decide +kernel, rfl, rfl⟩
theorem r_12_isWord_24 : RI M_X12_isWord 24 1 1 27 := ⟨by decide, by decide +kernel, rfl⟩
theorem r_12_isWord_27 : RL M_X12_isWord 27 2 28 := Or.inl ⟨2, by decide +kernel, rfl, rfl⟩
theorem r_12_isWord_28 : RC M_X12_isWord 28 28 30 := ⟨⟨by decide, by decide⟩, Or.inr (Or.inl ⟨by decide +kernel, by decide, rfl⟩)⟩
theorem r_12_isWord_30 : RW M_X12_isWord 30 .idiv 31 1 := ⟨by decide +kernel, rfl⟩
theorem r_12_isWord_31 : RS M_X12_isWord 31 2 32 := ⟨by decide, Or.inl ⟨2, by decide +kernel, rfl, rfl⟩⟩
theorem r_12_isWord_32 : RB M_X12_isWord 32 .goto 11 35 := ⟨(-21), by decide +kernel, rfl, rfl⟩
theorem r_12_isWord_22 : RC M_X12_isWord 22 0 23 := ⟨⟨by decide, by decide⟩, Or.inl ⟨by decide +kernel, rfl⟩⟩
theorem r_12_isWord_23 : RW M_X12_isWord 23 .ireturn 24 1 := ⟨by decide +kernel, rfl⟩
theorem r_12_isWord_5 : RC M_X12_isWord 5 0 6 := ⟨⟨by decide, by decide⟩, Or.inl ⟨by decide +kernel, rfl⟩⟩
theorem r_12_isWord_6 : RW M_X12_isWord 6 .ireturn 7 1 := ⟨by decide +kernel, rfl⟩
theorem r_12_lengthOf_0 : RC M_X12_lengthOf 0 0 1 := ⟨⟨by decide, by decide⟩, Or.inl ⟨by decide +kernel, rfl⟩⟩
theorem r_12_lengthOf_1 : RS M_X12_lengthOf 1 1 2 := ⟨by decide, Or.inl ⟨1, by decide +kernel, rfl, rfl⟩⟩
theorem r_12_lengthOf_2 : RL M_X12_lengthOf 2 0 3 := Or.inl ⟨0, by decide +kernel, rfl, rfl⟩
theorem r_12_lengthOf_3 : RS M_X12_lengthOf 3 2 4 := ⟨by decide, Or.inl ⟨2, by decide +kernel, rfl, rfl⟩⟩
theorem r_12_lengthOf_4 : RL M_X12_lengthOf 4 2 5 := Or.inl ⟨2, by decide +kernel, rfl, rfl⟩
theorem r_12_lengthOf_5 : RB M_X12_lengthOf 5 (.ifCond .le) 19 8 := ⟨14, by decide +kernel, rfl, rfl⟩
theorem r_12_lengthOf_19 : RL M_X12_lengthOf 19 1 20 := Or.inl ⟨1, by decide +kernel, rfl, rfl⟩
theorem r_12_lengthOf_20 : RW M_X12_lengthOf 20 .ireturn 21 1 := ⟨by decide +kernel, rfl⟩
theorem r_12_lengthOf_8 : RI M_X12_lengthOf 8 1 1 11 := ⟨by decide, by decide +kernel, rfl⟩
theorem r_12_lengthOf_11 : RL M_X12_lengthOf 11 2 12 := Or.inl ⟨2, by decide +kernel, rfl, rfl⟩
theorem r_12_lengthOf_12 : RC M_X12_lengthOf 12 28 14 := ⟨⟨by decide, by decide⟩, Or.inr (Or.inl ⟨by decide +kernel, by decide, rfl⟩)⟩
theorem r_12_lengthOf_14 : RW M_X12_lengthOf 14 .idiv 15 1 := ⟨by decide +kernel, rfl⟩
theorem r_12_lengthOf_15 : RS M_X12_lengthOf 15 2 16 := ⟨by decide, Or.inl ⟨2, by decide +kernel, rfl, rfl⟩⟩
theorem r_12_lengthOf_16 : RB M_X12_lengthOf 16 .goto 4 19 := ⟨(-12), by decide +kernel, rfl, rfl⟩
theorem r_5_addRow_0 : RL M_X5_addRow 0 2 1 := Or.inl ⟨2, by decide +kernel, rfl, rfl⟩
theorem r_5_addRow_1 : RKs M_X5_addRow M_X5_wordLength 1 1 4 := ⟨57, by decide +kernel, Or.inl wd_m5_57, ok_M_X5_wordLength, rfl⟩
theorem r_5_addRow_4 : RS M_X5_addRow 4 5 6 := ⟨by decide, Or.inr ⟨by decide +kernel, rfl⟩⟩
theorem r_5_addRow_6 : RL M_X5_addRow 6 1 7 := Or.inl ⟨1, by decide +kernel, rfl, rfl⟩
theorem r_5_addRow_7 : RKs M_X5_addRow M_X11_isSide 7 1 10 := ⟨61, by decide +kernel, Or.inr (by decide +kernel), ok_M_X11_isSide, rfl⟩
theorem r_5_addRow_10 : RB M_X5_addRow 10 (.ifCond .eq) 40 13 := ⟨30, by decide +kernel, rfl, rfl⟩
theorem r_5_addRow_40 : RC M_X5_addRow 40 (-1) 41 := ⟨⟨by decide, by decide⟩, Or.inl ⟨by decide +kernel, rfl⟩⟩
theorem r_5_addRow_41 : RW M_X5_addRow 41 .ireturn 42 1 := ⟨by decide +kernel, rfl⟩
theorem r_5_addRow_13 : RL M_X5_addRow 13 5 15 := Or.inr ⟨by decide +kernel, rfl⟩
theorem r_5_addRow_15 : RC M_X5_addRow 15 1 16 := ⟨⟨by decide, by decide⟩, Or.inl ⟨by decide +kernel, rfl⟩⟩
theorem r_5_addRow_16 : RB M_X5_addRow 16 (.if_icmp .lt) 40 19 := ⟨24, by decide +kernel, rfl, rfl⟩
theorem r_5_addRow_19 : RL M_X5_addRow 19 3 20 := Or.inl ⟨3, by decide +kernel, rfl, rfl⟩
theorem r_5_addRow_20 : RC M_X5_addRow 20 (-1) 21 := ⟨⟨by decide, by decide⟩, Or.inl ⟨by decide +kernel, rfl⟩⟩
theorem r_5_addRow_21 : RC M_X5_addRow 21 99 23 := ⟨⟨by decide, by decide⟩, Or.inr (Or.inl ⟨by decide +kernel, by decide, rfl⟩)⟩
theorem r_5_addRow_23 : RKs M_X5_addRow M_X11_within 23 3 26 := ⟨65, by decide +kernel, Or.inr (by decide +kernel), ok_M_X11_within, rfl⟩
theorem r_5_addRow_26 : RB M_X5_addRow 26 (.ifCond .eq) 40 29 := ⟨14, by decide +kernel, rfl, rfl⟩
theorem r_5_addRow_29 : RL M_X5_addRow 29 4 31 := Or.inr ⟨by decide +kernel, rfl⟩
theorem r_5_addRow_31 : RC M_X5_addRow 31 (-1) 32 := ⟨⟨by decide, by decide⟩, Or.inl ⟨by decide +kernel, rfl⟩⟩
theorem r_5_addRow_32 : RC M_X5_addRow 32 99 34 := ⟨⟨by decide, by decide⟩, Or.inr (Or.inl ⟨by decide +kernel, by decide, rfl⟩)⟩
theorem r_5_addRow_34 : RKs M_X5_addRow M_X11_within 34 3 37 := ⟨65, by decide +kernel, Or.inr (by decide +kernel), ok_M_X11_within, rfl⟩
theorem r_5_addRow_37 : RB M_X5_addRow 37 (.ifCond .ne) 42 40 := ⟨5, by decide +kernel, rfl, rfl⟩
theorem r_5_addRow_42 : RA M_X5_addRow 42 0 43 := Or.inl ⟨0, by decide +kernel, rfl, rfl⟩
theorem r_5_addRow_43 : RG M_X5_addRow 43 5 0 46 := ⟨54, _, by decide +kernel, rfl, by decide, wd_f5_54, rfl, rfl⟩
theorem r_5_addRow_46 : RC M_X5_addRow 46 100 48 := ⟨⟨by decide, by decide⟩, Or.inr (Or.inl ⟨by decide +kernel, by decide, rfl⟩)⟩
theorem r_5_addRow_48 : RB M_X5_addRow 48 (.if_icmp .lt) 54 51 := ⟨6, by decide +kernel, rfl, rfl⟩
theorem r_5_addRow_54 : RL M_X5_addRow 54 2 55 := Or.inl ⟨2, by decide +kernel, rfl, rfl⟩
theorem r_5_addRow_55 : RS M_X5_addRow 55 6 57 := ⟨by decide, Or.inr ⟨by decide +kernel, rfl⟩⟩
theorem r_5_addRow_57 : RC M_X5_addRow 57 0 58 := ⟨⟨by decide, by decide⟩, Or.inl ⟨by decide +kernel, rfl⟩⟩
theorem r_5_addRow_58 : RS M_X5_addRow 58 7 60 := ⟨by decide, Or.inr ⟨by decide +kernel, rfl⟩⟩
theorem r_5_addRow_60 : RL M_X5_addRow 60 7 62 := Or.inr ⟨by decide +kernel, rfl⟩
theorem r_5_addRow_62 : RC M_X5_addRow 62 5 63 := ⟨⟨by decide, by decide⟩, Or.inl ⟨by decide +kernel, rfl⟩⟩
theorem r_5_addRow_63 : RB M_X5_addRow 63 (.if_icmp .ge) 96 66 := ⟨33, by decide +kernel, rfl, rfl⟩
theorem r_5_addRow_96 : RA M_X5_addRow 96 0 97 := Or.inl ⟨0, by decide +kernel, rfl, rfl⟩
theorem r_5_addRow_97 : RG M_X5_addRow 97 5 3 100 := ⟨20, _, by decide +kernel, rfl, by decide, wd_f5_20, rfl, rfl⟩
theorem r_5_addRow_100 : RA M_X5_addRow 100 0 101 := Or.inl ⟨0, by decide +kernel, rfl, rfl⟩
theorem r_5_addRow_101 : RG M_X5_addRow 101 5 0 104 := ⟨54, _, by decide +kernel, rfl, by decide, wd_f5_54, rfl, rfl⟩
theorem r_5_addRow_104 : RL M_X5_addRow 104 5 106 := Or.inr ⟨by decide +kernel, rfl⟩
theorem r_5_addRow_106 : RW M_X5_addRow 106 .iastore 107 1 := ⟨by decide +kernel, rfl⟩
theorem r_5_addRow_107 : RA M_X5_addRow 107 0 108 := Or.inl ⟨0, by decide +kernel, rfl, rfl⟩
theorem r_5_addRow_108 : RG M_X5_addRow 108 5 1 111 := ⟨11, _, by decide +kernel, rfl, by decide, wd_f5_11, rfl, rfl⟩
theorem r_5_addRow_111 : RA M_X5_addRow 111 0 112 := Or.inl ⟨0, by decide +kernel, rfl, rfl⟩
theorem r_5_addRow_112 : RG M_X5_addRow 112 5 0 115 := ⟨54, _, by decide +kernel, rfl, by decide, wd_f5_54, rfl, rfl⟩
theorem r_5_addRow_115 : RL M_X5_addRow 115 1 116 := Or.inl ⟨1, by decide +kernel, rfl, rfl⟩
theorem r_5_addRow_116 : RW M_X5_addRow 116 .iastore 117 1 := ⟨by decide +kernel, rfl⟩
theorem r_5_addRow_117 : RA M_X5_addRow 117 0 118 := Or.inl ⟨0, by decide +kernel, rfl, rfl⟩
theorem r_5_addRow_118 : RG M_X5_addRow 118 5 4 121 := ⟨23, _, by decide +kernel, rfl, by decide, wd_f5_23, rfl, rfl⟩
theorem r_5_addRow_121 : RA M_X5_addRow 121 0 122 := Or.inl ⟨0, by decide +kernel, rfl, rfl⟩
theorem r_5_addRow_122 : RG M_X5_addRow 122 5 0 125 := ⟨54, _, by decide +kernel, rfl, by decide, wd_f5_54, rfl, rfl⟩
theorem r_5_addRow_125 : RL M_X5_addRow 125 3 126 := Or.inl ⟨3, by decide +kernel, rfl, rfl⟩
theorem r_5_addRow_126 : RW M_X5_addRow 126 .iastore 127 1 := ⟨by decide +kernel, rfl⟩
theorem r_5_addRow_127 : RA M_X5_addRow 127 0 128 := Or.inl ⟨0, by decide +kernel, rfl, rfl⟩
theorem r_5_addRow_128 : RG M_X5_addRow 128 5 5 131 := ⟨26, _, by decide +kernel, rfl, by decide, wd_f5_26, rfl, rfl⟩
theorem r_5_addRow_131 : RA M_X5_addRow 131 0 132 := Or.inl ⟨0, by decide +kernel, rfl, rfl⟩
theorem r_5_addRow_132 : RG M_X5_addRow 132 5 0 135 := ⟨54, _, by decide +kernel, rfl, by decide, wd_f5_54, rfl, rfl⟩
theorem r_5_addRow_135 : RL M_X5_addRow 135 4 137 := Or.inr ⟨by decide +kernel, rfl⟩
theorem r_5_addRow_137 : RW M_X5_addRow 137 .iastore 138 1 := ⟨by decide +kernel, rfl⟩
theorem r_5_addRow_138 : RA M_X5_addRow 138 0 139 := Or.inl ⟨0, by decide +kernel, rfl, rfl⟩
theorem r_5_addRow_139 : RW M_X5_addRow 139 .dup 140 1 := ⟨by decide +kernel, rfl⟩
theorem r_5_addRow_140 : RG M_X5_addRow 140 5 0 143 := ⟨54, _, by decide +kernel, rfl, by decide, wd_f5_54, rfl, rfl⟩
theorem r_5_addRow_143 : RC M_X5_addRow 143 1 144 := ⟨⟨by decide, by decide⟩, Or.inl ⟨by decide +kernel, rfl⟩⟩
theorem r_5_addRow_144 : RW M_X5_addRow 144 .iadd 145 1 := ⟨by decide +kernel, rfl⟩
theorem r_5_addRow_145 : RP M_X5_addRow 145 5 0 148 := ⟨54, _, by decide +kernel, rfl, by decide, wd_f5_54, rfl, Or.inl rfl, rfl⟩
theorem r_5_addRow_148 : RA M_X5_addRow 148 0 149 := Or.inl ⟨0, by decide +kernel, rfl, rfl⟩
theorem r_5_addRow_149 : RG M_X5_addRow 149 5 0 152 := ⟨54, _, by decide +kernel, rfl, by decide, wd_f5_54, rfl, rfl⟩
theorem r_5_addRow_152 : RC M_X5_addRow 152 1 153 := ⟨⟨by decide, by decide⟩, Or.inl ⟨by decide +kernel, rfl⟩⟩
theorem r_5_addRow_153 : RW M_X5_addRow 153 .isub 154 1 := ⟨by decide +kernel, rfl⟩
theorem r_5_addRow_154 : RW M_X5_addRow 154 .ireturn 155 1 := ⟨by decide +kernel, rfl⟩
theorem r_5_addRow_66 : RA M_X5_addRow 66 0 67 := Or.inl ⟨0, by decide +kernel, rfl, rfl⟩
theorem r_5_addRow_67 : RG M_X5_addRow 67 5 2 70 := ⟨17, _, by decide +kernel, rfl, by decide, wd_f5_17, rfl, rfl⟩
theorem r_5_addRow_70 : RA M_X5_addRow 70 0 71 := Or.inl ⟨0, by decide +kernel, rfl, rfl⟩
theorem r_5_addRow_71 : RG M_X5_addRow 71 5 0 74 := ⟨54, _, by decide +kernel, rfl, by decide, wd_f5_54, rfl, rfl⟩
theorem r_5_addRow_74 : RW M_X5_addRow 74 .aaload 75 1 := ⟨by decide +kernel, rfl⟩
theorem r_5_addRow_75 : RL M_X5_addRow 75 7 77 := Or.inr ⟨by decide +kernel, rfl⟩
theorem r_5_addRow_77 : RL M_X5_addRow 77 6 79 := Or.inr ⟨by decide +kernel, rfl⟩
theorem r_5_addRow_79 : RC M_X5_addRow 79 28 81 := ⟨⟨by decide, by decide⟩, Or.inr (Or.inl ⟨by decide +kernel, by decide, rfl⟩)⟩
theorem r_5_addRow_81 : RW M_X5_addRow 81 .irem 82 1 := ⟨by decide +kernel, rfl⟩
theorem r_5_addRow_82 : RW M_X5_addRow 82 .iastore 83 1 := ⟨by decide +kernel, rfl⟩
theorem r_5_addRow_83 : RL M_X5_addRow 83 6 85 := Or.inr ⟨by decide +kernel, rfl⟩
theorem r_5_addRow_85 : RC M_X5_addRow 85 28 87 := ⟨⟨by decide, by decide⟩, Or.inr (Or.inl ⟨by decide +kernel, by decide, rfl⟩)⟩
theorem r_5_addRow_87 : RW M_X5_addRow 87 .idiv 88 1 := ⟨by decide +kernel, rfl⟩
theorem r_5_addRow_88 : RS M_X5_addRow 88 6 90 := ⟨by decide, Or.inr ⟨by decide +kernel, rfl⟩⟩
theorem r_5_addRow_90 : RI M_X5_addRow 90 7 1 93 := ⟨by decide, by decide +kernel, rfl⟩
theorem r_5_addRow_93 : RB M_X5_addRow 93 .goto 60 96 := ⟨(-33), by decide +kernel, rfl, rfl⟩
theorem r_5_addRow_51 : RC M_X5_addRow 51 (-2) 53 := ⟨⟨by decide, by decide⟩, Or.inr (Or.inl ⟨by decide +kernel, by decide, rfl⟩)⟩
theorem r_5_addRow_53 : RW M_X5_addRow 53 .ireturn 54 1 := ⟨by decide +kernel, rfl⟩
theorem r_12_addRow_0 : RA M_X12_addRow 0 0 1 := Or.inl ⟨0, by decide +kernel, rfl, rfl⟩
theorem r_12_addRow_1 : RG M_X12_addRow 1 12 51 4 := ⟨118, _, by decide +kernel, rfl, by decide, wd_f12_118, rfl, rfl⟩
theorem r_12_addRow_4 : RA M_X12_addRow 4 0 5 := Or.inl ⟨0, by decide +kernel, rfl, rfl⟩
theorem r_12_addRow_5 : RG M_X12_addRow 5 12 55 8 := ⟨396, _, by decide +kernel, rfl, by decide, wd_f12_396, rfl, rfl⟩
theorem r_12_addRow_8 : RL M_X12_addRow 8 1 9 := Or.inl ⟨1, by decide +kernel, rfl, rfl⟩
theorem r_12_addRow_9 : RW M_X12_addRow 9 .iastore 10 1 := ⟨by decide +kernel, rfl⟩
theorem r_12_addRow_10 : RA M_X12_addRow 10 0 11 := Or.inl ⟨0, by decide +kernel, rfl, rfl⟩
theorem r_12_addRow_11 : RG M_X12_addRow 11 12 52 14 := ⟨121, _, by decide +kernel, rfl, by decide, wd_f12_121, rfl, rfl⟩
theorem r_12_addRow_14 : RA M_X12_addRow 14 0 15 := Or.inl ⟨0, by decide +kernel, rfl, rfl⟩
theorem r_12_addRow_15 : RG M_X12_addRow 15 12 55 18 := ⟨396, _, by decide +kernel, rfl, by decide, wd_f12_396, rfl, rfl⟩
theorem r_12_addRow_18 : RL M_X12_addRow 18 2 19 := Or.inl ⟨2, by decide +kernel, rfl, rfl⟩
theorem r_12_addRow_19 : RW M_X12_addRow 19 .iastore 20 1 := ⟨by decide +kernel, rfl⟩
theorem r_12_addRow_20 : RA M_X12_addRow 20 0 21 := Or.inl ⟨0, by decide +kernel, rfl, rfl⟩
theorem r_12_addRow_21 : RG M_X12_addRow 21 12 53 24 := ⟨124, _, by decide +kernel, rfl, by decide, wd_f12_124, rfl, rfl⟩
theorem r_12_addRow_24 : RA M_X12_addRow 24 0 25 := Or.inl ⟨0, by decide +kernel, rfl, rfl⟩
theorem r_12_addRow_25 : RG M_X12_addRow 25 12 55 28 := ⟨396, _, by decide +kernel, rfl, by decide, wd_f12_396, rfl, rfl⟩
theorem r_12_addRow_28 : RL M_X12_addRow 28 3 29 := Or.inl ⟨3, by decide +kernel, rfl, rfl⟩
theorem r_12_addRow_29 : RW M_X12_addRow 29 .iastore 30 1 := ⟨by decide +kernel, rfl⟩
theorem r_12_addRow_30 : RA M_X12_addRow 30 0 31 := Or.inl ⟨0, by decide +kernel, rfl, rfl⟩
theorem r_12_addRow_31 : RG M_X12_addRow 31 12 54 34 := ⟨127, _, by decide +kernel, rfl, by decide, wd_f12_127, rfl, rfl⟩
theorem r_12_addRow_34 : RA M_X12_addRow 34 0 35 := Or.inl ⟨0, by decide +kernel, rfl, rfl⟩
theorem r_12_addRow_35 : RG M_X12_addRow 35 12 55 38 := ⟨396, _, by decide +kernel, rfl, by decide, wd_f12_396, rfl, rfl⟩
theorem r_12_addRow_38 : RL M_X12_addRow 38 4 40 := Or.inr ⟨by decide +kernel, rfl⟩
theorem r_12_addRow_40 : RW M_X12_addRow 40 .iastore 41 1 := ⟨by decide +kernel, rfl⟩
theorem r_12_addRow_41 : RA M_X12_addRow 41 0 42 := Or.inl ⟨0, by decide +kernel, rfl, rfl⟩
theorem r_12_addRow_42 : RW M_X12_addRow 42 .dup 43 1 := ⟨by decide +kernel, rfl⟩
theorem r_12_addRow_43 : RG M_X12_addRow 43 12 55 46 := ⟨396, _, by decide +kernel, rfl, by decide, wd_f12_396, rfl, rfl⟩
theorem r_12_addRow_46 : RC M_X12_addRow 46 1 47 := ⟨⟨by decide, by decide⟩, Or.inl ⟨by decide +kernel, rfl⟩⟩
theorem r_12_addRow_47 : RW M_X12_addRow 47 .iadd 48 1 := ⟨by decide +kernel, rfl⟩
theorem r_12_addRow_48 : RP M_X12_addRow 48 12 55 51 := ⟨396, _, by decide +kernel, rfl, by decide, wd_f12_396, rfl, Or.inl rfl, rfl⟩
theorem r_12_addRow_51 : RA M_X12_addRow 51 0 52 := Or.inl ⟨0, by decide +kernel, rfl, rfl⟩
theorem r_12_addRow_52 : RG M_X12_addRow 52 12 55 55 := ⟨396, _, by decide +kernel, rfl, by decide, wd_f12_396, rfl, rfl⟩
theorem r_12_addRow_55 : RC M_X12_addRow 55 1 56 := ⟨⟨by decide, by decide⟩, Or.inl ⟨by decide +kernel, rfl⟩⟩
theorem r_12_addRow_56 : RW M_X12_addRow 56 .isub 57 1 := ⟨by decide +kernel, rfl⟩
theorem r_12_addRow_57 : RW M_X12_addRow 57 .ireturn 58 1 := ⟨by decide +kernel, rfl⟩
theorem r_12_row_0 : RL M_X12_row 0 1 1 := Or.inl ⟨1, by decide +kernel, rfl, rfl⟩
theorem r_12_row_1 : RKs M_X12_row M_X12_isSide 1 1 4 := ⟨254, by decide +kernel, Or.inl wd_m12_254, ok_M_X12_isSide, rfl⟩
theorem r_12_row_4 : RB M_X12_row 4 (.ifCond .eq) 35 7 := ⟨31, by decide +kernel, rfl, rfl⟩
theorem r_12_row_35 : RC M_X12_row 35 (-1) 36 := ⟨⟨by decide, by decide⟩, Or.inl ⟨by decide +kernel, rfl⟩⟩
theorem r_12_row_36 : RW M_X12_row 36 .ireturn 37 1 := ⟨by decide +kernel, rfl⟩
theorem r_12_row_7 : RL M_X12_row 7 2 8 := Or.inl ⟨2, by decide +kernel, rfl, rfl⟩
theorem r_12_row_8 : RKs M_X12_row M_X12_isWord 8 1 11 := ⟨399, by decide +kernel, Or.inl wd_m12_399, ok_M_X12_isWord, rfl⟩
theorem r_12_row_11 : RB M_X12_row 11 (.ifCond .eq) 35 14 := ⟨24, by decide +kernel, rfl, rfl⟩
theorem r_12_row_14 : RL M_X12_row 14 3 15 := Or.inl ⟨3, by decide +kernel, rfl, rfl⟩
theorem r_12_row_15 : RC M_X12_row 15 (-1) 16 := ⟨⟨by decide, by decide⟩, Or.inl ⟨by decide +kernel, rfl⟩⟩
theorem r_12_row_16 : RC M_X12_row 16 99 18 := ⟨⟨by decide, by decide⟩, Or.inr (Or.inl ⟨by decide +kernel, by decide, rfl⟩)⟩
theorem r_12_row_18 : RKs M_X12_row M_X12_within 18 3 21 := ⟨240, by decide +kernel, Or.inl wd_m12_240, ok_M_X12_within, rfl⟩
theorem r_12_row_21 : RB M_X12_row 21 (.ifCond .eq) 35 24 := ⟨14, by decide +kernel, rfl, rfl⟩
theorem r_12_row_24 : RL M_X12_row 24 4 26 := Or.inr ⟨by decide +kernel, rfl⟩
theorem r_12_row_26 : RC M_X12_row 26 (-1) 27 := ⟨⟨by decide, by decide⟩, Or.inl ⟨by decide +kernel, rfl⟩⟩
theorem r_12_row_27 : RC M_X12_row 27 99 29 := ⟨⟨by decide, by decide⟩, Or.inr (Or.inl ⟨by decide +kernel, by decide, rfl⟩)⟩
theorem r_12_row_29 : RKs M_X12_row M_X12_within 29 3 32 := ⟨240, by decide +kernel, Or.inl wd_m12_240, ok_M_X12_within, rfl⟩
theorem r_12_row_32 : RB M_X12_row 32 (.ifCond .ne) 37 35 := ⟨5, by decide +kernel, rfl, rfl⟩
theorem r_12_row_37 : RA M_X12_row 37 0 38 := Or.inl ⟨0, by decide +kernel, rfl, rfl⟩
theorem r_12_row_38 : RG M_X12_row 38 12 55 41 := ⟨396, _, by decide +kernel, rfl, by decide, wd_f12_396, rfl, rfl⟩
theorem r_12_row_41 : RC M_X12_row 41 100 43 := ⟨⟨by decide, by decide⟩, Or.inr (Or.inl ⟨by decide +kernel, by decide, rfl⟩)⟩
theorem r_12_row_43 : RB M_X12_row 43 (.if_icmp .ne) 51 46 := ⟨8, by decide +kernel, rfl, rfl⟩
theorem r_12_row_51 : RA M_X12_row 51 0 52 := Or.inl ⟨0, by decide +kernel, rfl, rfl⟩
theorem r_12_row_52 : RL M_X12_row 52 1 53 := Or.inl ⟨1, by decide +kernel, rfl, rfl⟩
theorem r_12_row_53 : RL M_X12_row 53 2 54 := Or.inl ⟨2, by decide +kernel, rfl, rfl⟩
theorem r_12_row_54 : RL M_X12_row 54 3 55 := Or.inl ⟨3, by decide +kernel, rfl, rfl⟩
theorem r_12_row_55 : RL M_X12_row 55 4 57 := Or.inr ⟨by decide +kernel, rfl⟩
theorem r_12_row_57 : RKv M_X12_row M_X12_addRow 57 4 12 60 := ⟨402, by decide +kernel, wd_m12_402, ok_M_X12_addRow, wd_s12_addRow, rfl⟩
theorem r_12_row_60 : RW M_X12_row 60 .ireturn 61 1 := ⟨by decide +kernel, rfl⟩
theorem r_12_row_46 : RC M_X12_row 46 (-2) 48 := ⟨⟨by decide, by decide⟩, Or.inr (Or.inl ⟨by decide +kernel, by decide, rfl⟩)⟩
theorem r_12_row_48 : RB M_X12_row 48 .goto 60 51 := ⟨12, by decide +kernel, rfl, rfl⟩
theorem r_5_isToldOrBlank_0 : RL M_X5_isToldOrBlank 0 1 1 := Or.inl ⟨1, by decide +kernel, rfl, rfl⟩
theorem r_5_isToldOrBlank_1 : RA M_X5_isToldOrBlank 1 0 2 := Or.inl ⟨0, by decide +kernel, rfl, rfl⟩
theorem r_5_isToldOrBlank_2 : RG M_X5_isToldOrBlank 2 5 12 5 := ⟨50, _, by decide +kernel, rfl, by decide, wd_f5_50, rfl, rfl⟩
theorem r_5_isToldOrBlank_5 : RB M_X5_isToldOrBlank 5 (.if_icmp .eq) 18 8 := ⟨13, by decide +kernel, rfl, rfl⟩
theorem r_5_isToldOrBlank_18 : RC M_X5_isToldOrBlank 18 1 19 := ⟨⟨by decide, by decide⟩, Or.inl ⟨by decide +kernel, rfl⟩⟩
theorem r_5_isToldOrBlank_19 : RB M_X5_isToldOrBlank 19 .goto 23 22 := ⟨4, by decide +kernel, rfl, rfl⟩
theorem r_5_isToldOrBlank_23 : RW M_X5_isToldOrBlank 23 .ireturn 24 1 := ⟨by decide +kernel, rfl⟩
theorem r_5_isToldOrBlank_8 : RL M_X5_isToldOrBlank 8 1 9 := Or.inl ⟨1, by decide +kernel, rfl, rfl⟩
theorem r_5_isToldOrBlank_9 : RC M_X5_isToldOrBlank 9 0 10 := ⟨⟨by decide, by decide⟩, Or.inl ⟨by decide +kernel, rfl⟩⟩
theorem r_5_isToldOrBlank_10 : RC M_X5_isToldOrBlank 10 99 12 := ⟨⟨by decide, by decide⟩, Or.inr (Or.inl ⟨by decide +kernel, by decide, rfl⟩)⟩
theorem r_5_isToldOrBlank_12 : RKs M_X5_isToldOrBlank M_X11_within 12 3 15 := ⟨65, by decide +kernel, Or.inr (by decide +kernel), ok_M_X11_within, rfl⟩
theorem r_5_isToldOrBlank_15 : RB M_X5_isToldOrBlank 15 (.ifCond .eq) 22 18 := ⟨7, by decide +kernel, rfl, rfl⟩
theorem r_5_isToldOrBlank_22 : RC M_X5_isToldOrBlank 22 0 23 := ⟨⟨by decide, by decide⟩, Or.inl ⟨by decide +kernel, rfl⟩⟩
theorem r_5_takeThree_0 : RL M_X5_takeThree 0 3 1 := Or.inl ⟨3, by decide +kernel, rfl, rfl⟩
theorem r_5_takeThree_1 : RB M_X5_takeThree 1 (.ifCond .lt) 12 4 := ⟨11, by decide +kernel, rfl, rfl⟩
theorem r_5_takeThree_4 : RL M_X5_takeThree 4 3 5 := Or.inl ⟨3, by decide +kernel, rfl, rfl⟩
theorem r_5_takeThree_5 : RA M_X5_takeThree 5 2 6 := Or.inl ⟨2, by decide +kernel, rfl, rfl⟩
theorem r_5_takeThree_6 : RW M_X5_takeThree 6 .arraylength 7 1 := ⟨by decide +kernel, rfl⟩
theorem r_5_takeThree_7 : RC M_X5_takeThree 7 3 8 := ⟨⟨by decide, by decide⟩, Or.inl ⟨by decide +kernel, rfl⟩⟩
theorem r_5_takeThree_8 : RW M_X5_takeThree 8 .isub 9 1 := ⟨by decide +kernel, rfl⟩
theorem r_5_takeThree_9 : RB M_X5_takeThree 9 (.if_icmp .le) 14 12 := ⟨5, by decide +kernel, rfl, rfl⟩
theorem r_5_takeThree_14 : RA M_X5_takeThree 14 2 15 := Or.inl ⟨2, by decide +kernel, rfl, rfl⟩
theorem r_5_takeThree_15 : RL M_X5_takeThree 15 3 16 := Or.inl ⟨3, by decide +kernel, rfl, rfl⟩
theorem r_5_takeThree_16 : RW M_X5_takeThree 16 .saload 17 1 := ⟨by decide +kernel, rfl⟩
theorem r_5_takeThree_17 : RS M_X5_takeThree 17 4 19 := ⟨by decide, Or.inr ⟨by decide +kernel, rfl⟩⟩
theorem r_5_takeThree_19 : RA M_X5_takeThree 19 2 20 := Or.inl ⟨2, by decide +kernel, rfl, rfl⟩
theorem r_5_takeThree_20 : RL M_X5_takeThree 20 3 21 := Or.inl ⟨3, by decide +kernel, rfl, rfl⟩
theorem r_5_takeThree_21 : RC M_X5_takeThree 21 1 22 := ⟨⟨by decide, by decide⟩, Or.inl ⟨by decide +kernel, rfl⟩⟩
theorem r_5_takeThree_22 : RW M_X5_takeThree 22 .iadd 23 1 := ⟨by decide +kernel, rfl⟩
theorem r_5_takeThree_23 : RW M_X5_takeThree 23 .saload 24 1 := ⟨by decide +kernel, rfl⟩
theorem r_5_takeThree_24 : RS M_X5_takeThree 24 5 26 := ⟨by decide, Or.inr ⟨by decide +kernel, rfl⟩⟩
theorem r_5_takeThree_26 : RA M_X5_takeThree 26 2 27 := Or.inl ⟨2, by decide +kernel, rfl, rfl⟩
theorem r_5_takeThree_27 : RL M_X5_takeThree 27 3 28 := Or.inl ⟨3, by decide +kernel, rfl, rfl⟩
theorem r_5_takeThree_28 : RC M_X5_takeThree 28 2 29 := ⟨⟨by decide, by decide⟩, Or.inl ⟨by decide +kernel, rfl⟩⟩
theorem r_5_takeThree_29 : RW M_X5_takeThree 29 .iadd 30 1 := ⟨by decide +kernel, rfl⟩
theorem r_5_takeThree_30 : RW M_X5_takeThree 30 .saload 31 1 := ⟨by decide +kernel, rfl⟩
theorem r_5_takeThree_31 : RS M_X5_takeThree 31 6 33 := ⟨by decide, Or.inr ⟨by decide +kernel, rfl⟩⟩
theorem r_5_takeThree_33 : RA M_X5_takeThree 33 0 34 := Or.inl ⟨0, by decide +kernel, rfl, rfl⟩
theorem r_5_takeThree_34 : RL M_X5_takeThree 34 4 36 := Or.inr ⟨by decide +kernel, rfl⟩
theorem r_5_takeThree_36 : RKv M_X5_takeThree M_X5_isToldOrBlank 36 1 5 39 := ⟨112, by decide +kernel, wd_m5_112, ok_M_X5_isToldOrBlank, wd_s5_isToldOrBlank, rfl⟩
theorem r_5_takeThree_39 : RB M_X5_takeThree 39 (.ifCond .eq) 62 42 := ⟨23, by decide +kernel, rfl, rfl⟩
theorem r_5_takeThree_62 : RC M_X5_takeThree 62 0 63 := ⟨⟨by decide, by decide⟩, Or.inl ⟨by decide +kernel, rfl⟩⟩
theorem r_5_takeThree_63 : RW M_X5_takeThree 63 .ireturn 64 1 := ⟨by decide +kernel, rfl⟩
theorem r_5_takeThree_42 : RA M_X5_takeThree 42 0 43 := Or.inl ⟨0, by decide +kernel, rfl, rfl⟩
theorem r_5_takeThree_43 : RL M_X5_takeThree 43 5 45 := Or.inr ⟨by decide +kernel, rfl⟩
theorem r_5_takeThree_45 : RKv M_X5_takeThree M_X5_isToldOrBlank 45 1 5 48 := ⟨112, by decide +kernel, wd_m5_112, ok_M_X5_isToldOrBlank, wd_s5_isToldOrBlank, rfl⟩
theorem r_5_takeThree_48 : RB M_X5_takeThree 48 (.ifCond .eq) 62 51 := ⟨14, by decide +kernel, rfl, rfl⟩
theorem r_5_takeThree_51 : RL M_X5_takeThree 51 6 53 := Or.inr ⟨by decide +kernel, rfl⟩
theorem r_5_takeThree_53 : RC M_X5_takeThree 53 1 54 := ⟨⟨by decide, by decide⟩, Or.inl ⟨by decide +kernel, rfl⟩⟩
theorem r_5_takeThree_54 : RC M_X5_takeThree 54 27 56 := ⟨⟨by decide, by decide⟩, Or.inr (Or.inl ⟨by decide +kernel, by decide, rfl⟩)⟩
theorem r_5_takeThree_56 : RKs M_X5_takeThree M_X11_within 56 3 59 := ⟨65, by decide +kernel, Or.inr (by decide +kernel), ok_M_X11_within, rfl⟩
theorem r_5_takeThree_59 : RB M_X5_takeThree 59 (.ifCond .ne) 64 62 := ⟨5, by decide +kernel, rfl, rfl⟩
theorem r_5_takeThree_64 : RA M_X5_takeThree 64 0 65 := Or.inl ⟨0, by decide +kernel, rfl, rfl⟩
theorem r_5_takeThree_65 : RL M_X5_takeThree 65 1 66 := Or.inl ⟨1, by decide +kernel, rfl, rfl⟩
theorem r_5_takeThree_66 : RL M_X5_takeThree 66 6 68 := Or.inr ⟨by decide +kernel, rfl⟩
theorem r_5_takeThree_68 : RL M_X5_takeThree 68 4 70 := Or.inr ⟨by decide +kernel, rfl⟩
theorem r_5_takeThree_70 : RA M_X5_takeThree 70 0 71 := Or.inl ⟨0, by decide +kernel, rfl, rfl⟩
theorem r_5_takeThree_71 : RG M_X5_takeThree 71 5 12 74 := ⟨50, _, by decide +kernel, rfl, by decide, wd_f5_50, rfl, rfl⟩
theorem r_5_takeThree_74 : RB M_X5_takeThree 74 (.if_icmp .ne) 81 77 := ⟨7, by decide +kernel, rfl, rfl⟩
theorem r_5_takeThree_81 : RL M_X5_takeThree 81 4 83 := Or.inr ⟨by decide +kernel, rfl⟩
theorem r_5_takeThree_83 : RL M_X5_takeThree 83 5 85 := Or.inr ⟨by decide +kernel, rfl⟩
theorem r_5_takeThree_85 : RA M_X5_takeThree 85 0 86 := Or.inl ⟨0, by decide +kernel, rfl, rfl⟩
theorem r_5_takeThree_86 : RG M_X5_takeThree 86 5 12 89 := ⟨50, _, by decide +kernel, rfl, by decide, wd_f5_50, rfl, rfl⟩
theorem r_5_takeThree_89 : RB M_X5_takeThree 89 (.if_icmp .ne) 96 92 := ⟨7, by decide +kernel, rfl, rfl⟩
theorem r_5_takeThree_96 : RL M_X5_takeThree 96 5 98 := Or.inr ⟨by decide +kernel, rfl⟩
theorem r_5_takeThree_98 : RKv M_X5_takeThree M_X5_addRow 98 4 5 101 := ⟨115, by decide +kernel, wd_m5_115, ok_M_X5_addRow, wd_s5_addRow, rfl⟩
theorem r_5_takeThree_101 : RB M_X5_takeThree 101 (.ifCond .lt) 108 104 := ⟨7, by decide +kernel, rfl, rfl⟩
theorem r_5_takeThree_108 : RC M_X5_takeThree 108 0 109 := ⟨⟨by decide, by decide⟩, Or.inl ⟨by decide +kernel, rfl⟩⟩
theorem r_5_takeThree_109 : RW M_X5_takeThree 109 .ireturn 110 1 := ⟨by decide +kernel, rfl⟩
theorem r_5_takeThree_104 : RC M_X5_takeThree 104 1 105 := ⟨⟨by decide, by decide⟩, Or.inl ⟨by decide +kernel, rfl⟩⟩
theorem r_5_takeThree_105 : RB M_X5_takeThree 105 .goto 109 108 := ⟨4, by decide +kernel, rfl, rfl⟩
theorem r_5_takeThree_92 : RC M_X5_takeThree 92 (-1) 93 := ⟨⟨by decide, by decide⟩, Or.inl ⟨by decide +kernel, rfl⟩⟩
theorem r_5_takeThree_93 : RB M_X5_takeThree 93 .goto 98 96 := ⟨5, by decide +kernel, rfl, rfl⟩
theorem r_5_takeThree_77 : RC M_X5_takeThree 77 (-1) 78 := ⟨⟨by decide, by decide⟩, Or.inl ⟨by decide +kernel, rfl⟩⟩
theorem r_5_takeThree_78 : RB M_X5_takeThree 78 .goto 83 81 := ⟨5, by decide +kernel, rfl, rfl⟩
theorem r_5_takeList_0 : RL M_X5_takeList 0 1 1 := Or.inl ⟨1, by decide +kernel, rfl, rfl⟩
theorem r_5_takeList_1 : RKs M_X5_takeList M_X11_isSide 1 1 4 := ⟨61, by decide +kernel, Or.inr (by decide +kernel), ok_M_X11_isSide, rfl⟩
theorem r_5_takeList_4 : RB M_X5_takeList 4 (.ifCond .eq) 25 7 := ⟨21, by decide +kernel, rfl, rfl⟩
theorem r_5_takeList_25 : RC M_X5_takeList 25 (-1) 26 := ⟨⟨by decide, by decide⟩, Or.inl ⟨by decide +kernel, rfl⟩⟩
theorem r_5_takeList_26 : RW M_X5_takeList 26 .ireturn 27 1 := ⟨by decide +kernel, rfl⟩
theorem r_5_takeList_7 : RL M_X5_takeList 7 2 8 := Or.inl ⟨2, by decide +kernel, rfl, rfl⟩
theorem r_5_takeList_8 : RKs M_X5_takeList M_X5_isTable 8 1 11 := ⟨104, by decide +kernel, Or.inl wd_m5_104, ok_M_X5_isTable, rfl⟩
theorem r_5_takeList_11 : RB M_X5_takeList 11 (.ifCond .eq) 25 14 := ⟨14, by decide +kernel, rfl, rfl⟩
theorem r_5_takeList_14 : RL M_X5_takeList 14 4 16 := Or.inr ⟨by decide +kernel, rfl⟩
theorem r_5_takeList_16 : RC M_X5_takeList 16 1 17 := ⟨⟨by decide, by decide⟩, Or.inl ⟨by decide +kernel, rfl⟩⟩
theorem r_5_takeList_17 : RC M_X5_takeList 17 20 19 := ⟨⟨by decide, by decide⟩, Or.inr (Or.inl ⟨by decide +kernel, by decide, rfl⟩)⟩
theorem r_5_takeList_19 : RKs M_X5_takeList M_X11_within 19 3 22 := ⟨65, by decide +kernel, Or.inr (by decide +kernel), ok_M_X11_within, rfl⟩
theorem r_5_takeList_22 : RB M_X5_takeList 22 (.ifCond .ne) 27 25 := ⟨5, by decide +kernel, rfl, rfl⟩
theorem r_5_takeList_27 : RA M_X5_takeList 27 0 28 := Or.inl ⟨0, by decide +kernel, rfl, rfl⟩
theorem r_5_takeList_28 : RG M_X5_takeList 28 5 10 31 := ⟨44, _, by decide +kernel, rfl, by decide, wd_f5_44, rfl, rfl⟩
theorem r_5_takeList_31 : RL M_X5_takeList 31 2 32 := Or.inl ⟨2, by decide +kernel, rfl, rfl⟩
theorem r_5_takeList_32 : RW M_X5_takeList 32 .iaload 33 1 := ⟨by decide +kernel, rfl⟩
theorem r_5_takeList_33 : RC M_X5_takeList 33 1 34 := ⟨⟨by decide, by decide⟩, Or.inl ⟨by decide +kernel, rfl⟩⟩
theorem r_5_takeList_34 : RB M_X5_takeList 34 (.if_icmp .eq) 40 37 := ⟨6, by decide +kernel, rfl, rfl⟩
theorem r_5_takeList_40 : RL M_X5_takeList 40 3 41 := Or.inl ⟨3, by decide +kernel, rfl, rfl⟩
theorem r_5_takeList_41 : RB M_X5_takeList 41 (.ifCond .ge) 46 44 := ⟨5, by decide +kernel, rfl, rfl⟩
theorem r_5_takeList_46 : RC M_X5_takeList 46 0 47 := ⟨⟨by decide, by decide⟩, Or.inl ⟨by decide +kernel, rfl⟩⟩
theorem r_5_takeList_47 : RS M_X5_takeList 47 5 49 := ⟨by decide, Or.inr ⟨by decide +kernel, rfl⟩⟩
theorem r_5_takeList_49 : RL M_X5_takeList 49 3 50 := Or.inl ⟨3, by decide +kernel, rfl, rfl⟩
theorem r_5_takeList_50 : RS M_X5_takeList 50 6 52 := ⟨by decide, Or.inr ⟨by decide +kernel, rfl⟩⟩
theorem r_5_takeList_52 : RL M_X5_takeList 52 5 54 := Or.inr ⟨by decide +kernel, rfl⟩
theorem r_5_takeList_54 : RL M_X5_takeList 54 4 56 := Or.inr ⟨by decide +kernel, rfl⟩
theorem r_5_takeList_56 : RB M_X5_takeList 56 (.if_icmp .ge) 100 59 := ⟨44, by decide +kernel, rfl, rfl⟩
theorem r_5_takeList_100 : RL M_X5_takeList 100 5 102 := Or.inr ⟨by decide +kernel, rfl⟩
theorem r_5_takeList_102 : RW M_X5_takeList 102 .ireturn 103 1 := ⟨by decide +kernel, rfl⟩
theorem r_5_takeList_59 : RL M_X5_takeList 59 6 61 := Or.inr ⟨by decide +kernel, rfl⟩
theorem r_5_takeList_61 : RA M_X5_takeList 61 0 62 := Or.inl ⟨0, by decide +kernel, rfl, rfl⟩
theorem r_5_takeList_62 : RG M_X5_takeList 62 5 11 65 := ⟨47, _, by decide +kernel, rfl, by decide, wd_f5_47, rfl, rfl⟩
theorem r_5_takeList_65 : RL M_X5_takeList 65 2 66 := Or.inl ⟨2, by decide +kernel, rfl, rfl⟩
theorem r_5_takeList_66 : RW M_X5_takeList 66 .iaload 67 1 := ⟨by decide +kernel, rfl⟩
theorem r_5_takeList_67 : RC M_X5_takeList 67 3 68 := ⟨⟨by decide, by decide⟩, Or.inl ⟨by decide +kernel, rfl⟩⟩
theorem r_5_takeList_68 : RW M_X5_takeList 68 .isub 69 1 := ⟨by decide +kernel, rfl⟩
theorem r_5_takeList_69 : RB M_X5_takeList 69 (.if_icmp .gt) 100 72 := ⟨31, by decide +kernel, rfl, rfl⟩
theorem r_5_takeList_72 : RA M_X5_takeList 72 0 73 := Or.inl ⟨0, by decide +kernel, rfl, rfl⟩
theorem r_5_takeList_73 : RL M_X5_takeList 73 1 74 := Or.inl ⟨1, by decide +kernel, rfl, rfl⟩
theorem r_5_takeList_74 : RA M_X5_takeList 74 0 75 := Or.inl ⟨0, by decide +kernel, rfl, rfl⟩
theorem r_5_takeList_75 : RG M_X5_takeList 75 5 9 78 := ⟨41, _, by decide +kernel, rfl, by decide, wd_f5_41, rfl, rfl⟩
theorem r_5_takeList_78 : RL M_X5_takeList 78 2 79 := Or.inl ⟨2, by decide +kernel, rfl, rfl⟩
theorem r_5_takeList_79 : RW M_X5_takeList 79 .aaload 80 1 := ⟨by decide +kernel, rfl⟩
theorem r_5_takeList_80 : RL M_X5_takeList 80 6 82 := Or.inr ⟨by decide +kernel, rfl⟩
theorem r_5_takeList_82 : RKv M_X5_takeList M_X5_takeThree 82 3 5 85 := ⟨108, by decide +kernel, wd_m5_108, ok_M_X5_takeThree, wd_s5_takeThree, rfl⟩
theorem r_5_takeList_85 : RB M_X5_takeList 85 (.ifCond .ne) 91 88 := ⟨6, by decide +kernel, rfl, rfl⟩
theorem r_5_takeList_88 : RL M_X5_takeList 88 5 90 := Or.inr ⟨by decide +kernel, rfl⟩
theorem r_5_takeList_90 : RW M_X5_takeList 90 .ireturn 91 1 := ⟨by decide +kernel, rfl⟩
theorem r_5_takeList_91 : RI M_X5_takeList 91 5 1 94 := ⟨by decide, by decide +kernel, rfl⟩
theorem r_5_takeList_94 : RI M_X5_takeList 94 6 3 97 := ⟨by decide, by decide +kernel, rfl⟩
theorem r_5_takeList_97 : RB M_X5_takeList 97 .goto 52 100 := ⟨(-45), by decide +kernel, rfl, rfl⟩
theorem r_5_takeList_44 : RC M_X5_takeList 44 0 45 := ⟨⟨by decide, by decide⟩, Or.inl ⟨by decide +kernel, rfl⟩⟩
theorem r_5_takeList_45 : RW M_X5_takeList 45 .ireturn 46 1 := ⟨by decide +kernel, rfl⟩
theorem r_5_takeList_37 : RC M_X5_takeList 37 (-5) 39 := ⟨⟨by decide, by decide⟩, Or.inr (Or.inl ⟨by decide +kernel, by decide, rfl⟩)⟩
theorem r_5_takeList_39 : RW M_X5_takeList 39 .ireturn 40 1 := ⟨by decide +kernel, rfl⟩
theorem r_12_list_0 : RL M_X12_list 0 1 1 := Or.inl ⟨1, by decide +kernel, rfl, rfl⟩
theorem r_12_list_1 : RKs M_X12_list M_X12_isSide 1 1 4 := ⟨254, by decide +kernel, Or.inl wd_m12_254, ok_M_X12_isSide, rfl⟩
theorem r_12_list_4 : RB M_X12_list 4 (.ifCond .eq) 25 7 := ⟨21, by decide +kernel, rfl, rfl⟩
theorem r_12_list_25 : RC M_X12_list 25 (-1) 26 := ⟨⟨by decide, by decide⟩, Or.inl ⟨by decide +kernel, rfl⟩⟩
theorem r_12_list_26 : RW M_X12_list 26 .ireturn 27 1 := ⟨by decide +kernel, rfl⟩
theorem r_12_list_7 : RL M_X12_list 7 2 8 := Or.inl ⟨2, by decide +kernel, rfl, rfl⟩
theorem r_12_list_8 : RKs M_X12_list M_X12_isTable 8 1 11 := ⟨428, by decide +kernel, Or.inl wd_m12_428, ok_M_X12_isTable, rfl⟩
theorem r_12_list_11 : RB M_X12_list 11 (.ifCond .eq) 25 14 := ⟨14, by decide +kernel, rfl, rfl⟩
theorem r_12_list_14 : RL M_X12_list 14 4 16 := Or.inr ⟨by decide +kernel, rfl⟩
theorem r_12_list_16 : RC M_X12_list 16 1 17 := ⟨⟨by decide, by decide⟩, Or.inl ⟨by decide +kernel, rfl⟩⟩
theorem r_12_list_17 : RC M_X12_list 17 20 19 := ⟨⟨by decide, by decide⟩, Or.inr (Or.inl ⟨by decide +kernel, by decide, rfl⟩)⟩
theorem r_12_list_19 : RKs M_X12_list M_X12_within 19 3 22 := ⟨240, by decide +kernel, Or.inl wd_m12_240, ok_M_X12_within, rfl⟩
theorem r_12_list_22 : RB M_X12_list 22 (.ifCond .ne) 27 25 := ⟨5, by decide +kernel, rfl, rfl⟩
theorem r_12_list_27 : RA M_X12_list 27 0 28 := Or.inl ⟨0, by decide +kernel, rfl, rfl⟩
theorem r_12_list_28 : RG M_X12_list 28 12 106 31 := ⟨231, _, by decide +kernel, rfl, by decide, wd_f12_231, rfl, rfl⟩
theorem r_12_list_31 : RL M_X12_list 31 2 32 := Or.inl ⟨2, by decide +kernel, rfl, rfl⟩
theorem r_12_list_32 : RW M_X12_list 32 .iaload 33 1 := ⟨by decide +kernel, rfl⟩
theorem r_12_list_33 : RC M_X12_list 33 1 34 := ⟨⟨by decide, by decide⟩, Or.inl ⟨by decide +kernel, rfl⟩⟩
theorem r_12_list_34 : RB M_X12_list 34 (.if_icmp .eq) 40 37 := ⟨6, by decide +kernel, rfl, rfl⟩
theorem r_12_list_40 : RC M_X12_list 40 0 41 := ⟨⟨by decide, by decide⟩, Or.inl ⟨by decide +kernel, rfl⟩⟩
theorem r_12_list_41 : RS M_X12_list 41 5 43 := ⟨by decide, Or.inr ⟨by decide +kernel, rfl⟩⟩
theorem r_12_list_43 : RL M_X12_list 43 5 45 := Or.inr ⟨by decide +kernel, rfl⟩
theorem r_12_list_45 : RL M_X12_list 45 4 47 := Or.inr ⟨by decide +kernel, rfl⟩
theorem r_12_list_47 : RB M_X12_list 47 (.if_icmp .ge) 295 50 := ⟨248, by decide +kernel, rfl, rfl⟩
theorem r_12_list_295 : RL M_X12_list 295 4 297 := Or.inr ⟨by decide +kernel, rfl⟩
theorem r_12_list_297 : RW M_X12_list 297 .ireturn 298 1 := ⟨by decide +kernel, rfl⟩
theorem r_12_list_50 : RL M_X12_list 50 3 51 := Or.inl ⟨3, by decide +kernel, rfl, rfl⟩
theorem r_12_list_51 : RW M_X12_list 51 .i2l 52 1 := ⟨by decide +kernel, rfl⟩
theorem r_12_list_52 : RLC M_X12_list 52 3 55 := Or.inr ⟨431, by decide +kernel, wd_c12_431, ⟨by decide, by decide⟩, rfl⟩
theorem r_12_list_55 : RL M_X12_list 55 5 57 := Or.inr ⟨by decide +kernel, rfl⟩
theorem r_12_list_57 : RW M_X12_list 57 .i2l 58 1 := ⟨by decide +kernel, rfl⟩
theorem r_12_list_58 : RW M_X12_list 58 .lmul 59 1 := ⟨by decide +kernel, rfl⟩
theorem r_12_list_59 : RW M_X12_list 59 .ladd 60 1 := ⟨by decide +kernel, rfl⟩
theorem r_12_list_60 : RLT M_X12_list 60 6 62 := ⟨by decide, Or.inr ⟨by decide +kernel, rfl⟩⟩
theorem r_12_list_62 : RLL M_X12_list 62 6 64 := Or.inr ⟨by decide +kernel, rfl⟩
theorem r_12_list_64 : RLC M_X12_list 64 0 65 := Or.inl ⟨0, by decide +kernel, rfl, rfl⟩
theorem r_12_list_65 : RW M_X12_list 65 .lcmp 66 1 := ⟨by decide +kernel, rfl⟩
theorem r_12_list_66 : RB M_X12_list 66 (.ifCond .lt) 95 69 := ⟨29, by decide +kernel, rfl, rfl⟩
theorem r_12_list_95 : RL M_X12_list 95 5 97 := Or.inr ⟨by decide +kernel, rfl⟩
theorem r_12_list_97 : RW M_X12_list 97 .ireturn 98 1 := ⟨by decide +kernel, rfl⟩
theorem r_12_list_69 : RLL M_X12_list 69 6 71 := Or.inr ⟨by decide +kernel, rfl⟩
theorem r_12_list_71 : RLC M_X12_list 71 3 74 := Or.inr ⟨431, by decide +kernel, wd_c12_431, ⟨by decide, by decide⟩, rfl⟩
theorem r_12_list_74 : RW M_X12_list 74 .ladd 75 1 := ⟨by decide +kernel, rfl⟩
theorem r_12_list_75 : RA M_X12_list 75 0 76 := Or.inl ⟨0, by decide +kernel, rfl, rfl⟩
theorem r_12_list_76 : RG M_X12_list 76 12 107 79 := ⟨234, _, by decide +kernel, rfl, by decide, wd_f12_234, rfl, rfl⟩
theorem r_12_list_79 : RL M_X12_list 79 2 80 := Or.inl ⟨2, by decide +kernel, rfl, rfl⟩
theorem r_12_list_80 : RW M_X12_list 80 .iaload 81 1 := ⟨by decide +kernel, rfl⟩
theorem r_12_list_81 : RW M_X12_list 81 .i2l 82 1 := ⟨by decide +kernel, rfl⟩
theorem r_12_list_82 : RW M_X12_list 82 .lcmp 83 1 := ⟨by decide +kernel, rfl⟩
theorem r_12_list_83 : RB M_X12_list 83 (.ifCond .gt) 95 86 := ⟨12, by decide +kernel, rfl, rfl⟩
theorem r_12_list_86 : RA M_X12_list 86 0 87 := Or.inl ⟨0, by decide +kernel, rfl, rfl⟩
theorem r_12_list_87 : RG M_X12_list 87 12 55 90 := ⟨396, _, by decide +kernel, rfl, by decide, wd_f12_396, rfl, rfl⟩
theorem r_12_list_90 : RC M_X12_list 90 100 92 := ⟨⟨by decide, by decide⟩, Or.inr (Or.inl ⟨by decide +kernel, by decide, rfl⟩)⟩
theorem r_12_list_92 : RB M_X12_list 92 (.if_icmp .ne) 98 95 := ⟨6, by decide +kernel, rfl, rfl⟩
theorem r_12_list_98 : RC M_X12_list 98 60 100 := ⟨⟨by decide, by decide⟩, Or.inr (Or.inl ⟨by decide +kernel, by decide, rfl⟩)⟩
theorem r_12_list_100 : RL M_X12_list 100 2 101 := Or.inl ⟨2, by decide +kernel, rfl, rfl⟩
theorem r_12_list_101 : RW M_X12_list 101 .imul 102 1 := ⟨by decide +kernel, rfl⟩
theorem r_12_list_102 : RLL M_X12_list 102 6 104 := Or.inr ⟨by decide +kernel, rfl⟩
theorem r_12_list_104 : RW M_X12_list 104 .l2i 105 1 := ⟨by decide +kernel, rfl⟩
theorem r_12_list_105 : RW M_X12_list 105 .iadd 106 1 := ⟨by decide +kernel, rfl⟩
theorem r_12_list_106 : RS M_X12_list 106 8 108 := ⟨by decide, Or.inr ⟨by decide +kernel, rfl⟩⟩
theorem r_12_list_241 : RS M_X12_list 241 11 243 := ⟨by decide, Or.inr ⟨by decide +kernel, rfl⟩⟩
theorem r_12_list_243 : RL M_X12_list 243 11 245 := Or.inr ⟨by decide +kernel, rfl⟩
theorem r_12_list_245 : RB M_X12_list 245 (.ifCond .eq) 266 248 := ⟨21, by decide +kernel, rfl, rfl⟩
theorem r_12_list_266 : RL M_X12_list 266 5 268 := Or.inr ⟨by decide +kernel, rfl⟩
theorem r_12_list_268 : RW M_X12_list 268 .ireturn 269 1 := ⟨by decide +kernel, rfl⟩
theorem r_12_list_248 : RA M_X12_list 248 0 249 := Or.inl ⟨0, by decide +kernel, rfl, rfl⟩
theorem r_12_list_249 : RG M_X12_list 249 12 108 252 := ⟨237, _, by decide +kernel, rfl, by decide, wd_f12_237, rfl, rfl⟩
theorem r_12_list_252 : RL M_X12_list 252 8 254 := Or.inr ⟨by decide +kernel, rfl⟩
theorem r_12_list_254 : RC M_X12_list 254 2 255 := ⟨⟨by decide, by decide⟩, Or.inl ⟨by decide +kernel, rfl⟩⟩
theorem r_12_list_255 : RW M_X12_list 255 .iadd 256 1 := ⟨by decide +kernel, rfl⟩
theorem r_12_list_256 : RW M_X12_list 256 .iaload 257 1 := ⟨by decide +kernel, rfl⟩
theorem r_12_list_257 : RC M_X12_list 257 1 258 := ⟨⟨by decide, by decide⟩, Or.inl ⟨by decide +kernel, rfl⟩⟩
theorem r_12_list_258 : RC M_X12_list 258 27 260 := ⟨⟨by decide, by decide⟩, Or.inr (Or.inl ⟨by decide +kernel, by decide, rfl⟩)⟩
theorem r_12_list_260 : RKs M_X12_list M_X12_within 260 3 263 := ⟨240, by decide +kernel, Or.inl wd_m12_240, ok_M_X12_within, rfl⟩
theorem r_12_list_263 : RB M_X12_list 263 (.ifCond .ne) 269 266 := ⟨6, by decide +kernel, rfl, rfl⟩
theorem r_12_list_269 : RA M_X12_list 269 0 270 := Or.inl ⟨0, by decide +kernel, rfl, rfl⟩
theorem r_12_list_270 : RL M_X12_list 270 1 271 := Or.inl ⟨1, by decide +kernel, rfl, rfl⟩
theorem r_12_list_271 : RA M_X12_list 271 0 272 := Or.inl ⟨0, by decide +kernel, rfl, rfl⟩
theorem r_12_list_272 : RG M_X12_list 272 12 108 275 := ⟨237, _, by decide +kernel, rfl, by decide, wd_f12_237, rfl, rfl⟩
theorem r_12_list_275 : RL M_X12_list 275 8 277 := Or.inr ⟨by decide +kernel, rfl⟩
theorem r_12_list_277 : RC M_X12_list 277 2 278 := ⟨⟨by decide, by decide⟩, Or.inl ⟨by decide +kernel, rfl⟩⟩
theorem r_12_list_278 : RW M_X12_list 278 .iadd 279 1 := ⟨by decide +kernel, rfl⟩
theorem r_12_list_279 : RW M_X12_list 279 .iaload 280 1 := ⟨by decide +kernel, rfl⟩
theorem r_12_list_280 : RL M_X12_list 280 9 282 := Or.inr ⟨by decide +kernel, rfl⟩
theorem r_12_list_282 : RL M_X12_list 282 10 284 := Or.inr ⟨by decide +kernel, rfl⟩
theorem r_12_list_284 : RKv M_X12_list M_X12_addRow 284 4 12 287 := ⟨402, by decide +kernel, wd_m12_402, ok_M_X12_addRow, wd_s12_addRow, rfl⟩
theorem r_12_list_287 : RS M_X12_list 287 12 289 := ⟨by decide, Or.inr ⟨by decide +kernel, rfl⟩⟩
theorem r_12_list_289 : RI M_X12_list 289 5 1 292 := ⟨by decide, by decide +kernel, rfl⟩
theorem r_12_list_292 : RB M_X12_list 292 .goto 43 295 := ⟨(-249), by decide +kernel, rfl, rfl⟩
theorem r_12_list_164 : RS M_X12_list 164 10 166 := ⟨by decide, Or.inr ⟨by decide +kernel, rfl⟩⟩
theorem r_12_list_166 : RL M_X12_list 166 9 168 := Or.inr ⟨by decide +kernel, rfl⟩
theorem r_12_list_168 : RC M_X12_list 168 (-1) 169 := ⟨⟨by decide, by decide⟩, Or.inl ⟨by decide +kernel, rfl⟩⟩
theorem r_12_list_169 : RB M_X12_list 169 (.if_icmp .ne) 189 172 := ⟨20, by decide +kernel, rfl, rfl⟩
theorem r_12_list_189 : RL M_X12_list 189 9 191 := Or.inr ⟨by decide +kernel, rfl⟩
theorem r_12_list_191 : RC M_X12_list 191 0 192 := ⟨⟨by decide, by decide⟩, Or.inl ⟨by decide +kernel, rfl⟩⟩
theorem r_12_list_192 : RC M_X12_list 192 99 194 := ⟨⟨by decide, by decide⟩, Or.inr (Or.inl ⟨by decide +kernel, by decide, rfl⟩)⟩
theorem r_12_list_194 : RKs M_X12_list M_X12_within 194 3 197 := ⟨240, by decide +kernel, Or.inl wd_m12_240, ok_M_X12_within, rfl⟩
theorem r_12_list_197 : RB M_X12_list 197 (.ifCond .eq) 240 200 := ⟨43, by decide +kernel, rfl, rfl⟩
theorem r_12_list_240 : RC M_X12_list 240 0 241 := ⟨⟨by decide, by decide⟩, Or.inl ⟨by decide +kernel, rfl⟩⟩
theorem r_12_list_200 : RL M_X12_list 200 10 202 := Or.inr ⟨by decide +kernel, rfl⟩
theorem r_12_list_202 : RC M_X12_list 202 (-1) 203 := ⟨⟨by decide, by decide⟩, Or.inl ⟨by decide +kernel, rfl⟩⟩
theorem r_12_list_203 : RB M_X12_list 203 (.if_icmp .ne) 225 206 := ⟨22, by decide +kernel, rfl, rfl⟩
theorem r_12_list_225 : RL M_X12_list 225 10 227 := Or.inr ⟨by decide +kernel, rfl⟩
theorem r_12_list_227 : RC M_X12_list 227 0 228 := ⟨⟨by decide, by decide⟩, Or.inl ⟨by decide +kernel, rfl⟩⟩
theorem r_12_list_228 : RC M_X12_list 228 99 230 := ⟨⟨by decide, by decide⟩, Or.inr (Or.inl ⟨by decide +kernel, by decide, rfl⟩)⟩
theorem r_12_list_230 : RKs M_X12_list M_X12_within 230 3 233 := ⟨240, by decide +kernel, Or.inl wd_m12_240, ok_M_X12_within, rfl⟩
theorem r_12_list_233 : RB M_X12_list 233 (.ifCond .eq) 240 236 := ⟨7, by decide +kernel, rfl, rfl⟩
theorem r_12_list_236 : RC M_X12_list 236 1 237 := ⟨⟨by decide, by decide⟩, Or.inl ⟨by decide +kernel, rfl⟩⟩
theorem r_12_list_237 : RB M_X12_list 237 .goto 241 240 := ⟨4, by decide +kernel, rfl, rfl⟩
theorem r_12_list_206 : RA M_X12_list 206 0 207 := Or.inl ⟨0, by decide +kernel, rfl, rfl⟩
theorem r_12_list_207 : RG M_X12_list 207 12 108 210 := ⟨237, _, by decide +kernel, rfl, by decide, wd_f12_237, rfl, rfl⟩
theorem r_12_list_210 : RL M_X12_list 210 8 212 := Or.inr ⟨by decide +kernel, rfl⟩
theorem r_12_list_212 : RC M_X12_list 212 1 213 := ⟨⟨by decide, by decide⟩, Or.inl ⟨by decide +kernel, rfl⟩⟩
theorem r_12_list_213 : RW M_X12_list 213 .iadd 214 1 := ⟨by decide +kernel, rfl⟩
theorem r_12_list_214 : RW M_X12_list 214 .iaload 215 1 := ⟨by decide +kernel, rfl⟩
theorem r_12_list_215 : RA M_X12_list 215 0 216 := Or.inl ⟨0, by decide +kernel, rfl, rfl⟩
theorem r_12_list_216 : RG M_X12_list 216 12 57 219 := ⟨134, _, by decide +kernel, rfl, by decide, wd_f12_134, rfl, rfl⟩
theorem r_12_list_219 : RB M_X12_list 219 (.if_icmp .ne) 240 222 := ⟨21, by decide +kernel, rfl, rfl⟩
theorem r_12_list_222 : RB M_X12_list 222 .goto 236 225 := ⟨14, by decide +kernel, rfl, rfl⟩
theorem r_12_list_172 : RA M_X12_list 172 0 173 := Or.inl ⟨0, by decide +kernel, rfl, rfl⟩
theorem r_12_list_173 : RG M_X12_list 173 12 108 176 := ⟨237, _, by decide +kernel, rfl, by decide, wd_f12_237, rfl, rfl⟩
theorem r_12_list_176 : RL M_X12_list 176 8 178 := Or.inr ⟨by decide +kernel, rfl⟩
theorem r_12_list_178 : RW M_X12_list 178 .iaload 179 1 := ⟨by decide +kernel, rfl⟩
theorem r_12_list_179 : RA M_X12_list 179 0 180 := Or.inl ⟨0, by decide +kernel, rfl, rfl⟩
theorem r_12_list_180 : RG M_X12_list 180 12 57 183 := ⟨134, _, by decide +kernel, rfl, by decide, wd_f12_134, rfl, rfl⟩
theorem r_12_list_183 : RB M_X12_list 183 (.if_icmp .ne) 240 186 := ⟨57, by decide +kernel, rfl, rfl⟩
theorem r_12_list_186 : RB M_X12_list 186 .goto 200 189 := ⟨14, by decide +kernel, rfl, rfl⟩
theorem r_12_list_133 : RS M_X12_list 133 9 135 := ⟨by decide, Or.inr ⟨by decide +kernel, rfl⟩⟩
theorem r_12_list_135 : RA M_X12_list 135 0 136 := Or.inl ⟨0, by decide +kernel, rfl, rfl⟩
theorem r_12_list_136 : RG M_X12_list 136 12 108 139 := ⟨237, _, by decide +kernel, rfl, by decide, wd_f12_237, rfl, rfl⟩
theorem r_12_list_139 : RL M_X12_list 139 8 141 := Or.inr ⟨by decide +kernel, rfl⟩
theorem r_12_list_141 : RC M_X12_list 141 1 142 := ⟨⟨by decide, by decide⟩, Or.inl ⟨by decide +kernel, rfl⟩⟩
theorem r_12_list_142 : RW M_X12_list 142 .iadd 143 1 := ⟨by decide +kernel, rfl⟩
theorem r_12_list_143 : RW M_X12_list 143 .iaload 144 1 := ⟨by decide +kernel, rfl⟩
theorem r_12_list_144 : RA M_X12_list 144 0 145 := Or.inl ⟨0, by decide +kernel, rfl, rfl⟩
theorem r_12_list_145 : RG M_X12_list 145 12 57 148 := ⟨134, _, by decide +kernel, rfl, by decide, wd_f12_134, rfl, rfl⟩
theorem r_12_list_148 : RB M_X12_list 148 (.if_icmp .ne) 155 151 := ⟨7, by decide +kernel, rfl, rfl⟩
theorem r_12_list_155 : RA M_X12_list 155 0 156 := Or.inl ⟨0, by decide +kernel, rfl, rfl⟩
theorem r_12_list_156 : RG M_X12_list 156 12 108 159 := ⟨237, _, by decide +kernel, rfl, by decide, wd_f12_237, rfl, rfl⟩
theorem r_12_list_159 : RL M_X12_list 159 8 161 := Or.inr ⟨by decide +kernel, rfl⟩
theorem r_12_list_161 : RC M_X12_list 161 1 162 := ⟨⟨by decide, by decide⟩, Or.inl ⟨by decide +kernel, rfl⟩⟩
theorem r_12_list_162 : RW M_X12_list 162 .iadd 163 1 := ⟨by decide +kernel, rfl⟩
theorem r_12_list_163 : RW M_X12_list 163 .iaload 164 1 := ⟨by decide +kernel, rfl⟩
theorem r_12_list_151 : RC M_X12_list 151 (-1) 152 := ⟨⟨by decide, by decide⟩, Or.inl ⟨by decide +kernel, rfl⟩⟩
theorem r_12_list_152 : RB M_X12_list 152 .goto 164 155 := ⟨12, by decide +kernel, rfl, rfl⟩
theorem r_12_list_108 : RA M_X12_list 108 0 109 := Or.inl ⟨0, by decide +kernel, rfl, rfl⟩
theorem r_12_list_109 : RG M_X12_list 109 12 108 112 := ⟨237, _, by decide +kernel, rfl, by decide, wd_f12_237, rfl, rfl⟩
theorem r_12_list_112 : RL M_X12_list 112 8 114 := Or.inr ⟨by decide +kernel, rfl⟩
theorem r_12_list_114 : RW M_X12_list 114 .iaload 115 1 := ⟨by decide +kernel, rfl⟩
theorem r_12_list_115 : RA M_X12_list 115 0 116 := Or.inl ⟨0, by decide +kernel, rfl, rfl⟩
theorem r_12_list_116 : RG M_X12_list 116 12 57 119 := ⟨134, _, by decide +kernel, rfl, by decide, wd_f12_134, rfl, rfl⟩
theorem r_12_list_119 : RB M_X12_list 119 (.if_icmp .ne) 126 122 := ⟨7, by decide +kernel, rfl, rfl⟩
theorem r_12_list_126 : RA M_X12_list 126 0 127 := Or.inl ⟨0, by decide +kernel, rfl, rfl⟩
theorem r_12_list_127 : RG M_X12_list 127 12 108 130 := ⟨237, _, by decide +kernel, rfl, by decide, wd_f12_237, rfl, rfl⟩
theorem r_12_list_130 : RL M_X12_list 130 8 132 := Or.inr ⟨by decide +kernel, rfl⟩
theorem r_12_list_132 : RW M_X12_list 132 .iaload 133 1 := ⟨by decide +kernel, rfl⟩
theorem r_12_list_122 : RC M_X12_list 122 (-1) 123 := ⟨⟨by decide, by decide⟩, Or.inl ⟨by decide +kernel, rfl⟩⟩
theorem r_12_list_123 : RB M_X12_list 123 .goto 133 126 := ⟨10, by decide +kernel, rfl, rfl⟩
theorem r_12_list_37 : RC M_X12_list 37 (-5) 39 := ⟨⟨by decide, by decide⟩, Or.inr (Or.inl ⟨by decide +kernel, by decide, rfl⟩)⟩
theorem r_12_list_39 : RW M_X12_list 39 .ireturn 40 1 := ⟨by decide +kernel, rfl⟩
theorem r_11_row_0 : RA M_X11_row 0 0 1 := Or.inl ⟨0, by decide +kernel, rfl, rfl⟩
theorem r_11_row_1 : RG M_X11_row 1 11 4 4 := ⟨46, _, by decide +kernel, rfl, by decide, wd_f11_46, rfl, rfl⟩
theorem r_11_row_4 : RL M_X11_row 4 1 5 := Or.inl ⟨1, by decide +kernel, rfl, rfl⟩
theorem r_11_row_5 : RL M_X11_row 5 2 6 := Or.inl ⟨2, by decide +kernel, rfl, rfl⟩
theorem r_11_row_6 : RL M_X11_row 6 3 7 := Or.inl ⟨3, by decide +kernel, rfl, rfl⟩
theorem r_11_row_7 : RL M_X11_row 7 4 9 := Or.inr ⟨by decide +kernel, rfl⟩
theorem r_11_row_9 : RKv M_X11_row M_X5_addRow 9 4 5 12 := ⟨160, by decide +kernel, wd_m11_160, ok_M_X5_addRow, wd_s5_addRow, rfl⟩
theorem r_11_row_12 : RW M_X11_row 12 .ireturn 13 1 := ⟨by decide +kernel, rfl⟩
theorem r_11_list_0 : RA M_X11_list 0 0 1 := Or.inl ⟨0, by decide +kernel, rfl, rfl⟩
theorem r_11_list_1 : RG M_X11_list 1 11 4 4 := ⟨46, _, by decide +kernel, rfl, by decide, wd_f11_46, rfl, rfl⟩
theorem r_11_list_4 : RL M_X11_list 4 1 5 := Or.inl ⟨1, by decide +kernel, rfl, rfl⟩
theorem r_11_list_5 : RL M_X11_list 5 2 6 := Or.inl ⟨2, by decide +kernel, rfl, rfl⟩
theorem r_11_list_6 : RL M_X11_list 6 3 7 := Or.inl ⟨3, by decide +kernel, rfl, rfl⟩
theorem r_11_list_7 : RL M_X11_list 7 4 9 := Or.inr ⟨by decide +kernel, rfl⟩
theorem r_11_list_9 : RKv M_X11_list M_X5_takeList 9 4 5 12 := ⟨175, by decide +kernel, wd_m11_175, ok_M_X5_takeList, wd_s5_takeList, rfl⟩
theorem r_11_list_12 : RW M_X11_list 12 .ireturn 13 1 := ⟨by decide +kernel, rfl⟩
set_option maxRecDepth 10000 in
theorem sp_X5_wordLength {l : Launch} {w : Wo} {d : Nat} {G : PH} {P : Option PV → PH → Prop} {g : Int} (h1 : ¬ (∃ n, 0 ≤ n ∧ n ≤ 5 ∧ WordN g n) → P (some (vI (-1))) G) (h2 : ∀ n, 0 ≤ n → n ≤ 5 → WordN g n → P (some (vI n)) G) : PW l w M_X5_wordLength (d + 0) 0 [some (vI (g)), none, none, none] [] G P := by
  refine pw_rng (i := 0) rfl (fun hj => ?_)
  have hj : -2147483648 ≤ g ∧ g < 2147483648 := hj
  refine pw_iload r_5_wordLength_0 rfl ?_
  refine pw_istore (ls' := [some (vI (g)), some (vI (g)), none, none]) r_5_wordLength_1 rfl rfl ?_
  refine pw_const r_5_wordLength_2 ?_
  refine pw_istore (ls' := [some (vI (g)), some (vI (g)), some (vI (0)), none]) r_5_wordLength_3 rfl rfl ?_
  refine pw_const r_5_wordLength_4 ?_
  refine pw_istore (ls' := [some (vI (g)), some (vI (g)), some (vI (0)), some (vI (0))]) r_5_wordLength_5 rfl rfl ?_
  have L6 : ∀ (nF : Nat) (i z : Int), (hi : 0 ≤ i ∧ i ≤ 5) → (hz : z = lft g i) → (hd : ∀ j, 0 ≤ j → j < i → lft g j % 28 ≠ 0) → (hw : i = 0 ∨ 0 < g) → (hzb : z < 2147483648) → (5 - i).toNat < nF → PW l w M_X5_wordLength (d + 0) 6 [some (vI (g)), some (vI (z)), some (vI (i)), some (vI (i))] [] G P := by
    intro nF
    induction nF with
    | zero => intro _ _ _ _ _ _ _ hM; exact absurd hM (Nat.not_lt_zero _)
    | succ nF ih6 =>
      intro i z hi hz hd hw hzb hM6
      refine pw_iload r_5_wordLength_6 rfl ?_
      refine pw_const r_5_wordLength_7 ?_
      refine pw_icmp_ge r_5_wordLength_8 (fun h08 => ?_) (fun h08 => ?_)
      · skip
        refine pw_iload r_5_wordLength_38 rfl ?_
        refine pw_if_ne r_5_wordLength_39 (fun h39 => ?_) (fun h39 => ?_)
        · skip
          refine pw_const r_5_wordLength_50 ?_
          refine pw_iret r_5_wordLength_51 rfl (Nat.le_refl _) ⟨rfl, ?_⟩
          refine h1 (fun ⟨n, a, b, c⟩ => ?_)
          have hw0 := c.1
          have hnn := sh_nn (j := i) (Int.le_of_lt hw0) hi.1
          have hn1 := WordN_pos a c
          rcases (show z = 0 ∨ 0 < z by omega) with e | e
          · have hq := (WordN_dig c hi.1 (by rw [← hz, e]; decide)).1
            omega
          · have hq := sh_zero a c.2.2 (j := i) (by omega)
            omega
        · skip
          refine pw_iload r_5_wordLength_42 rfl ?_
          refine pw_if_le r_5_wordLength_43 (fun h43 => ?_) (fun h43 => ?_)
          · skip
            refine pw_const r_5_wordLength_50 ?_
            refine pw_iret r_5_wordLength_51 rfl (Nat.le_refl _) ⟨rfl, ?_⟩
            refine h1 (fun ⟨n, a, b, c⟩ => ?_)
            have hw0 := c.1
            have hnn := sh_nn (j := i) (Int.le_of_lt hw0) hi.1
            have hn1 := WordN_pos a c
            rcases (show z = 0 ∨ 0 < z by omega) with e | e
            · have hq := (WordN_dig c hi.1 (by rw [← hz, e]; decide)).1
              omega
            · have hq := sh_zero a c.2.2 (j := i) (by omega)
              omega
          · skip
            refine pw_iload r_5_wordLength_46 rfl ?_
            refine pw_goto r_5_wordLength_47 ?_
            refine pw_iret r_5_wordLength_51 rfl (Nat.le_refl _) ⟨rfl, ?_⟩
            refine h2 i hi.1 hi.2 ⟨by rcases hw with e | e; omega; exact e, hd, by omega⟩
      · skip
        refine pw_iload r_5_wordLength_11 rfl ?_
        refine pw_if_le r_5_wordLength_12 (fun h12 => ?_) (fun h12 => ?_)
        · skip
          refine pw_iload r_5_wordLength_38 rfl ?_
          refine pw_if_ne r_5_wordLength_39 (fun h39 => ?_) (fun h39 => ?_)
          · skip
            refine pw_const r_5_wordLength_50 ?_
            refine pw_iret r_5_wordLength_51 rfl (Nat.le_refl _) ⟨rfl, ?_⟩
            refine h1 (fun ⟨n, a, b, c⟩ => ?_)
            have hw0 := c.1
            have hnn := sh_nn (j := i) (Int.le_of_lt hw0) hi.1
            have hn1 := WordN_pos a c
            rcases (show z = 0 ∨ 0 < z by omega) with e | e
            · have hq := (WordN_dig c hi.1 (by rw [← hz, e]; decide)).1
              omega
            · have hq := sh_zero a c.2.2 (j := i) (by omega)
              omega
          · skip
            refine pw_iload r_5_wordLength_42 rfl ?_
            refine pw_if_le r_5_wordLength_43 (fun h43 => ?_) (fun h43 => ?_)
            · skip
              refine pw_const r_5_wordLength_50 ?_
              refine pw_iret r_5_wordLength_51 rfl (Nat.le_refl _) ⟨rfl, ?_⟩
              refine h1 (fun ⟨n, a, b, c⟩ => ?_)
              have hw0 := c.1
              have hnn := sh_nn (j := i) (Int.le_of_lt hw0) hi.1
              have hn1 := WordN_pos a c
              rcases (show z = 0 ∨ 0 < z by omega) with e | e
              · have hq := (WordN_dig c hi.1 (by rw [← hz, e]; decide)).1
                omega
              · have hq := sh_zero a c.2.2 (j := i) (by omega)
                omega
            · skip
              refine pw_iload r_5_wordLength_46 rfl ?_
              refine pw_goto r_5_wordLength_47 ?_
              refine pw_iret r_5_wordLength_51 rfl (Nat.le_refl _) ⟨rfl, ?_⟩
              refine h2 i hi.1 hi.2 ⟨by rcases hw with e | e; omega; exact e, hd, by omega⟩
        · skip
          refine pw_iload r_5_wordLength_15 rfl ?_
          refine pw_const r_5_wordLength_16 ?_
          refine pw_iremN r_5_wordLength_18 (by omega) (by omega) ?_
          refine pw_if_ne r_5_wordLength_19 (fun h19 => ?_) (fun h19 => ?_)
          · skip
            refine pw_iload r_5_wordLength_24 rfl ?_
            refine pw_const r_5_wordLength_25 ?_
            refine pw_idivN r_5_wordLength_27 (by omega) (by omega) (by omega) ?_
            refine pw_istore (ls' := [some (vI (g)), some (vI ((z / 28))), some (vI (i)), some (vI (i))]) r_5_wordLength_28 rfl rfl ?_
            refine pw_iinc (b := 0) (ls' := [some (vI (g)), some (vI ((z / 28))), some (vI ((i + 1))), some (vI (i))]) r_5_wordLength_29 rfl rfl (by omega) rfl ?_
            refine pw_iinc (b := 0) (ls' := [some (vI (g)), some (vI ((z / 28))), some (vI ((i + 1))), some (vI ((i + 1)))]) r_5_wordLength_32 rfl rfl (by omega) rfl ?_
            refine pw_goto r_5_wordLength_35 ?_
            exact ih6 ((i + 1)) ((z / 28)) (by omega) (by rw [sh_s g hi.1, ← hz]) (all_s hd (by rw [← hz]; exact h19)) (Or.inr (by rcases hw with e | e; (rw [e, sh_0] at hz; omega); exact e)) (by omega) (by omega)
          · skip
            refine pw_const r_5_wordLength_22 ?_
            refine pw_iret r_5_wordLength_23 rfl (Nat.le_refl _) ⟨rfl, ?_⟩
            refine h1 (fun ⟨n, a, b, c⟩ => ?_)
            have hq := (WordN_dig c hi.1 (by rw [← hz]; omega)).2
            omega
  exact L6 _ (0) (g) (by omega) (rfl) (fun j a b => by omega) (Or.inl rfl) (by omega) (Nat.lt_succ_self _)
set_option maxRecDepth 10000 in
theorem sp_X12_isWord {l : Launch} {w : Wo} {d : Nat} {G : PH} {P : Option PV → PH → Prop} {g : Int} (hP : P (some (vI (b2i (∃ n, 0 ≤ n ∧ n ≤ 5 ∧ WordN g n)))) G) : PW l w M_X12_isWord (d + 0) 0 [some (vI (g)), none, none] [] G P := by
  refine pw_rng (i := 0) rfl (fun hj => ?_)
  have hj : -2147483648 ≤ g ∧ g < 2147483648 := hj
  refine pw_iload r_12_isWord_0 rfl ?_
  refine pw_const r_12_isWord_1 ?_
  refine pw_icmp_ge r_12_isWord_2 (fun h02 => ?_) (fun h02 => ?_)
  · skip
    refine pw_const r_12_isWord_7 ?_
    refine pw_istore (ls' := [some (vI (g)), some (vI (0)), none]) r_12_isWord_8 rfl rfl ?_
    refine pw_iload r_12_isWord_9 rfl ?_
    refine pw_istore (ls' := [some (vI (g)), some (vI (0)), some (vI (g))]) r_12_isWord_10 rfl rfl ?_
    have L11 : ∀ (nF : Nat) (i z : Int), (hi : 0 ≤ i) → (hb : 0 ≤ z ∧ i + z < 2147483648) → (hz : z = lft g i) → (hd : ∀ j, 0 ≤ j → j < i → lft g j % 28 ≠ 0) → z.toNat < nF → PW l w M_X12_isWord (d + 0) 11 [some (vI (g)), some (vI (i)), some (vI (z))] [] G P := by
      intro nF
      induction nF with
      | zero => intro _ _ _ _ _ _ hM; exact absurd hM (Nat.not_lt_zero _)
      | succ nF ih11 =>
        intro i z hi hb hz hd hM11
        refine pw_iload r_12_isWord_11 rfl ?_
        refine pw_if_le r_12_isWord_12 (fun h12 => ?_) (fun h12 => ?_)
        · skip
          refine pw_iload r_12_isWord_35 rfl ?_
          refine pw_const r_12_isWord_36 ?_
          refine pw_icmp_gt r_12_isWord_37 (fun h37 => ?_) (fun h37 => ?_)
          · skip
            refine pw_const r_12_isWord_44 ?_
            refine pw_zret r_12_isWord_45 rfl (Or.inl rfl) (Nat.le_refl _) ⟨rfl, ?_⟩
            have hN : WordN g i := ⟨by omega, hd, by omega⟩
            exact pe hP (b2i_f (fun ⟨n, a, b, c⟩ => by have := WordN_one a hi c hN; omega)).symm
          · skip
            refine pw_const r_12_isWord_40 ?_
            refine pw_goto r_12_isWord_41 ?_
            refine pw_zret r_12_isWord_45 rfl (Or.inr rfl) (Nat.le_refl _) ⟨rfl, ?_⟩
            have hN : WordN g i := ⟨by omega, hd, by omega⟩
            exact pe hP (b2i_t ⟨i, hi, by omega, hN⟩).symm
        · skip
          refine pw_iload r_12_isWord_15 rfl ?_
          refine pw_const r_12_isWord_16 ?_
          refine pw_iremN r_12_isWord_18 (by omega) (by omega) ?_
          refine pw_if_ne r_12_isWord_19 (fun h19 => ?_) (fun h19 => ?_)
          · skip
            refine pw_iinc (b := 0) (ls' := [some (vI (g)), some (vI ((i + 1))), some (vI (z))]) r_12_isWord_24 rfl rfl (by omega) rfl ?_
            refine pw_iload r_12_isWord_27 rfl ?_
            refine pw_const r_12_isWord_28 ?_
            refine pw_idivN r_12_isWord_30 (by omega) (by omega) (by omega) ?_
            refine pw_istore (ls' := [some (vI (g)), some (vI ((i + 1))), some (vI ((z / 28)))]) r_12_isWord_31 rfl rfl ?_
            refine pw_goto r_12_isWord_32 ?_
            exact ih11 ((i + 1)) ((z / 28)) (by omega) (by omega) (by rw [sh_s g hi, ← hz]) (all_s hd (by rw [← hz]; exact h19)) (by omega)
          · skip
            refine pw_const r_12_isWord_22 ?_
            refine pw_zret r_12_isWord_23 rfl (Or.inl rfl) (Nat.le_refl _) ⟨rfl, ?_⟩
            refine pe hP (b2i_f (fun ⟨n, a, b, c⟩ => ?_)).symm
            have hq := (WordN_dig c hi (by rw [← hz]; omega)).2
            omega
    exact L11 _ (0) (g) (by omega) (by omega) (rfl) (fun j a b => by omega) (Nat.lt_succ_self _)
  · skip
    refine pw_const r_12_isWord_5 ?_
    refine pw_zret r_12_isWord_6 rfl (Or.inl rfl) (Nat.le_refl _) ⟨rfl, ?_⟩
    exact pe hP (b2i_f (fun ⟨n, a, b, c⟩ => by have := c.1; omega)).symm
set_option maxRecDepth 10000 in
theorem sp_X12_lengthOf {l : Launch} {w : Wo} {d : Nat} {G : PH} {P : Option PV → PH → Prop} {g n : Int} (hn : 0 ≤ n ∧ n ≤ 5) (hW : WordN g n) (hP : P (some (vI n)) G) : PW l w M_X12_lengthOf (d + 0) 0 [some (vI (g)), none, none] [] G P := by
  refine pw_rng (i := 0) rfl (fun hj => ?_)
  have hj : -2147483648 ≤ g ∧ g < 2147483648 := hj
  refine pw_const r_12_lengthOf_0 ?_
  refine pw_istore (ls' := [some (vI (g)), some (vI (0)), none]) r_12_lengthOf_1 rfl rfl ?_
  refine pw_iload r_12_lengthOf_2 rfl ?_
  refine pw_istore (ls' := [some (vI (g)), some (vI (0)), some (vI (g))]) r_12_lengthOf_3 rfl rfl ?_
  have L4 : ∀ (nF : Nat) (i z : Int), (hi : 0 ≤ i ∧ i ≤ n) → (hz : z = lft g i) → (hzb : z < 2147483648) → (n - i).toNat < nF → PW l w M_X12_lengthOf (d + 0) 4 [some (vI (g)), some (vI (i)), some (vI (z))] [] G P := by
    intro nF
    induction nF with
    | zero => intro _ _ _ _ _ hM; exact absurd hM (Nat.not_lt_zero _)
    | succ nF ih4 =>
      intro i z hi hz hzb hM4
      have hnn := sh_nn (j := i) (Int.le_of_lt hW.1) hi.1
      have hlt : 0 < z → i < n := fun hp => by
        rcases Int.lt_or_le i n with q | q
        · exact q
        · have := sh_zero hn.1 hW.2.2 q; omega
      refine pw_iload r_12_lengthOf_4 rfl ?_
      refine pw_if_le r_12_lengthOf_5 (fun h05 => ?_) (fun h05 => ?_)
      · skip
        refine pw_iload r_12_lengthOf_19 rfl ?_
        refine pw_iret r_12_lengthOf_20 rfl (Nat.le_refl _) ⟨rfl, ?_⟩
        have hq := (WordN_dig hW hi.1 (by rw [← hz, show z = 0 by omega]; decide)).1
        exact pe hP (by omega)
      · skip
        refine pw_iinc (b := 0) (ls' := [some (vI (g)), some (vI ((i + 1))), some (vI (z))]) r_12_lengthOf_8 rfl rfl (by omega) rfl ?_
        refine pw_iload r_12_lengthOf_11 rfl ?_
        refine pw_const r_12_lengthOf_12 ?_
        refine pw_idivN r_12_lengthOf_14 (by omega) (by omega) (by omega) ?_
        refine pw_istore (ls' := [some (vI (g)), some (vI ((i + 1))), some (vI ((z / 28)))]) r_12_lengthOf_15 rfl rfl ?_
        refine pw_goto r_12_lengthOf_16 ?_
        exact ih4 ((i + 1)) ((z / 28)) (by omega) (by rw [sh_s g hi.1, ← hz]) (by omega) (by omega)
  exact L4 _ (0) (g) (by omega) (rfl) (by omega) (Nat.lt_succ_self _)
set_option maxRecDepth 10000 in
theorem sp_X5_addRow {l : Launch} {w : Wo} {d : Nat} {G : PH} {P : Option PV → PH → Prop} {s g a u : Int} (hrw : 0 ≤ (gF G 5 0 0) ∧ (gF G 5 0 0) ≤ 100) (h1 : ¬ ((0 ≤ s ∧ s ≤ 1) ∧ (∃ n, 0 ≤ n ∧ n ≤ 5 ∧ WordN g n) ∧ (-1 ≤ a ∧ a ≤ 99) ∧ -1 ≤ u ∧ u ≤ 99) → P (some (vI (-1))) G) (h2 : (((0 ≤ s ∧ s ≤ 1) ∧ (∃ n, 0 ≤ n ∧ n ≤ 5 ∧ WordN g n) ∧ (-1 ≤ a ∧ a ≤ 99) ∧ -1 ≤ u ∧ u ≤ 99)) → (100 ≤ (gF G 5 0 0)) → P (some (vI (-2))) G) (h3 : (((0 ≤ s ∧ s ≤ 1) ∧ (∃ n, 0 ≤ n ∧ n ≤ 5 ∧ WordN g n) ∧ (-1 ≤ a ∧ a ≤ 99) ∧ -1 ≤ u ∧ u ≤ 99)) → ((gF G 5 0 0) < 100) → ∀ n lt, (0 ≤ n ∧ n ≤ 5 ∧ WordN g n) → (∀ x, 0 ≤ x → x < 5 → lt x = lft g x % 28) → P (some (vI (gF G 5 0 0))) (sF (sA (sA (sA (sA (uA G 49 ((gF G 5 0 0)) (lt)) 50 0 ((gF G 5 0 0)) (n)) 47 0 ((gF G 5 0 0)) (s)) 51 0 ((gF G 5 0 0)) (a)) 52 0 ((gF G 5 0 0)) (u)) 5 0 0 ((gF G 5 0 0) + 1))) : PW l w M_X5_addRow (d + 1) 0 [some (vR 5 (0)), some (vI (s)), some (vI (g)), some (vI (a)), some (vI (u)), none, none, none] [] G P := by
  refine pw_rng (i := 2) rfl (fun hj => ?_)
  have hj : -2147483648 ≤ g ∧ g < 2147483648 := hj
  refine pw_iload r_5_addRow_0 rfl ?_
  refine pw_callS (av := [vI (g)]) (st := []) (ls0 := [some (vI (g)), none, none, none]) r_5_addRow_1 rfl rfl rfl (Nat.le_refl _) ?_
  refine sp_X5_wordLength  ?_ ?_
  · skip
    intro hnw
    try have hn1 := WordN_pos hn0 hW
    refine pw_istore (ls' := [some (vR 5 (0)), some (vI (s)), some (vI (g)), some (vI (a)), some (vI (u)), some (vI (-1)), none, none]) r_5_addRow_4 rfl rfl ?_
    refine pw_iload r_5_addRow_6 rfl ?_
    refine pw_callS (av := [vI (s)]) (st := []) (ls0 := [some (vI (s))]) r_5_addRow_7 rfl rfl rfl (Nat.le_refl _) ?_
    refine sp_X11_isSide  ?_
    refine pw_if_eqB r_5_addRow_10 (fun h10 => ?_) (fun h10 => ?_)
    · skip
      refine pw_const r_5_addRow_40 ?_
      refine pw_iret r_5_addRow_41 rfl (Nat.le_refl _) ⟨rfl, ?_⟩
      first | (exfalso; omega) | exact h1 (fun q => by have q1 := q.1; have q2 := q.2.2; clear q; omega) | exact h1 (fun q => hnw q.2.1) | exact h2 ⟨by omega, ⟨n, hn0, hn5, hW⟩, by omega, by omega, by omega⟩ (by omega) | exact pe (h3 hok (by omega) n F ⟨hn0, hn5, hW⟩ (fun x a b => hF x a (by omega))) (by first | rfl | omega)
    · skip
      refine pw_iload r_5_addRow_13 rfl ?_
      refine pw_const r_5_addRow_15 ?_
      refine pw_icmp_lt r_5_addRow_16 (fun h16 => ?_) (fun h16 => absurd h16 (by decide))
      refine pw_const r_5_addRow_40 ?_
      refine pw_iret r_5_addRow_41 rfl (Nat.le_refl _) ⟨rfl, ?_⟩
      first | (exfalso; omega) | exact h1 (fun q => by have q1 := q.1; have q2 := q.2.2; clear q; omega) | exact h1 (fun q => hnw q.2.1) | exact h2 ⟨by omega, ⟨n, hn0, hn5, hW⟩, by omega, by omega, by omega⟩ (by omega) | exact pe (h3 hok (by omega) n F ⟨hn0, hn5, hW⟩ (fun x a b => hF x a (by omega))) (by first | rfl | omega)
  · skip
    intro n hn0 hn5 hW
    try have hn1 := WordN_pos hn0 hW
    refine pw_istore (ls' := [some (vR 5 (0)), some (vI (s)), some (vI (g)), some (vI (a)), some (vI (u)), some (vI (n)), none, none]) r_5_addRow_4 rfl rfl ?_
    refine pw_iload r_5_addRow_6 rfl ?_
    refine pw_callS (av := [vI (s)]) (st := []) (ls0 := [some (vI (s))]) r_5_addRow_7 rfl rfl rfl (Nat.le_refl _) ?_
    refine sp_X11_isSide  ?_
    refine pw_if_eqB r_5_addRow_10 (fun h10 => ?_) (fun h10 => ?_)
    · skip
      refine pw_const r_5_addRow_40 ?_
      refine pw_iret r_5_addRow_41 rfl (Nat.le_refl _) ⟨rfl, ?_⟩
      first | (exfalso; omega) | exact h1 (fun q => by have q1 := q.1; have q2 := q.2.2; clear q; omega) | exact h1 (fun q => hnw q.2.1) | exact h2 ⟨by omega, ⟨n, hn0, hn5, hW⟩, by omega, by omega, by omega⟩ (by omega) | exact pe (h3 hok (by omega) n F ⟨hn0, hn5, hW⟩ (fun x a b => hF x a (by omega))) (by first | rfl | omega)
    · skip
      refine pw_iload r_5_addRow_13 rfl ?_
      refine pw_const r_5_addRow_15 ?_
      refine pw_icmp_lt r_5_addRow_16 (fun h16 => ?_) (fun h16 => ?_)
      · skip
        refine pw_const r_5_addRow_40 ?_
        refine pw_iret r_5_addRow_41 rfl (Nat.le_refl _) ⟨rfl, ?_⟩
        first | (exfalso; omega) | exact h1 (fun q => by have q1 := q.1; have q2 := q.2.2; clear q; omega) | exact h1 (fun q => hnw q.2.1) | exact h2 ⟨by omega, ⟨n, hn0, hn5, hW⟩, by omega, by omega, by omega⟩ (by omega) | exact pe (h3 hok (by omega) n F ⟨hn0, hn5, hW⟩ (fun x a b => hF x a (by omega))) (by first | rfl | omega)
      · skip
        refine pw_iload r_5_addRow_19 rfl ?_
        refine pw_const r_5_addRow_20 ?_
        refine pw_const r_5_addRow_21 ?_
        refine pw_callS (av := [vI (a), vI ((-1)), vI (99)]) (st := []) (ls0 := [some (vI (a)), some (vI ((-1))), some (vI (99))]) r_5_addRow_23 rfl rfl rfl (Nat.le_refl _) ?_
        refine sp_X11_within  ?_
        refine pw_if_eqB r_5_addRow_26 (fun h26 => ?_) (fun h26 => ?_)
        · skip
          refine pw_const r_5_addRow_40 ?_
          refine pw_iret r_5_addRow_41 rfl (Nat.le_refl _) ⟨rfl, ?_⟩
          first | (exfalso; omega) | exact h1 (fun q => by have q1 := q.1; have q2 := q.2.2; clear q; omega) | exact h1 (fun q => hnw q.2.1) | exact h2 ⟨by omega, ⟨n, hn0, hn5, hW⟩, by omega, by omega, by omega⟩ (by omega) | exact pe (h3 hok (by omega) n F ⟨hn0, hn5, hW⟩ (fun x a b => hF x a (by omega))) (by first | rfl | omega)
        · skip
          refine pw_iload r_5_addRow_29 rfl ?_
          refine pw_const r_5_addRow_31 ?_
          refine pw_const r_5_addRow_32 ?_
          refine pw_callS (av := [vI (u), vI ((-1)), vI (99)]) (st := []) (ls0 := [some (vI (u)), some (vI ((-1))), some (vI (99))]) r_5_addRow_34 rfl rfl rfl (Nat.le_refl _) ?_
          refine sp_X11_within  ?_
          refine pw_if_neB r_5_addRow_37 (fun h37 => ?_) (fun h37 => ?_)
          · skip
            refine pw_aload r_5_addRow_42 rfl ?_
            refine pw_getI r_5_addRow_43 fs_5_0 (by decide) ?_
            refine pw_const r_5_addRow_46 ?_
            refine pw_icmp_lt r_5_addRow_48 (fun h48 => ?_) (fun h48 => ?_)
            · skip
              have hok : ((0 ≤ s ∧ s ≤ 1) ∧ (∃ n, 0 ≤ n ∧ n ≤ 5 ∧ WordN g n) ∧ (-1 ≤ a ∧ a ≤ 99) ∧ -1 ≤ u ∧ u ≤ 99) := ⟨by omega, ⟨n, hn0, hn5, hW⟩, by omega, by omega, by omega⟩
              refine pw_iload r_5_addRow_54 rfl ?_
              refine pw_istore (ls' := [some (vR 5 (0)), some (vI (s)), some (vI (g)), some (vI (a)), some (vI (u)), some (vI (n)), some (vI (g)), none]) r_5_addRow_55 rfl rfl ?_
              refine pw_const r_5_addRow_57 ?_
              refine pw_istore (ls' := [some (vR 5 (0)), some (vI (s)), some (vI (g)), some (vI (a)), some (vI (u)), some (vI (n)), some (vI (g)), some (vI (0))]) r_5_addRow_58 rfl rfl ?_
              have L60 : ∀ (nF : Nat) (i z : Int) (F : Int → Int), (hi : 0 ≤ i ∧ i ≤ 5) → (hz : z = lft g i) → (hF : ∀ x, 0 ≤ x → x < i → F x = lft g x % 28) → (hzb : z < 2147483648) → (5 - i).toNat < nF → PW l w M_X5_addRow (d + 1) 60 [some (vR 5 (0)), some (vI (s)), some (vI (g)), some (vI (a)), some (vI (u)), some (vI (n)), some (vI (z)), some (vI (i))] [] (uA G 49 (gF G 5 (0) 0) (F)) P := by
                intro nF
                induction nF with
                | zero => intro _ _ _ _ _ _ _ hM; exact absurd hM (Nat.not_lt_zero _)
                | succ nF ih60 =>
                  intro i z F hi hz hF hzb hM60
                  have hnn := sh_nn (j := i) (Int.le_of_lt hW.1) hi.1
                  refine pw_iload r_5_addRow_60 rfl ?_
                  refine pw_const r_5_addRow_62 ?_
                  refine pw_icmp_ge r_5_addRow_63 (fun h63 => ?_) (fun h63 => ?_)
                  · skip
                    refine pw_aload r_5_addRow_96 rfl ?_
                    refine pw_getR r_5_addRow_97 fs_5_3 (by decide) ?_
                    refine pw_aload r_5_addRow_100 rfl ?_
                    refine pw_getIv (v := gF G 5 (0) 0) r_5_addRow_101 fs_5_0 (by decide) (by first | rfl | simp [gF_sF, gF_sA, gF_uA, gF_sD, gA_sF, gA_sA, gA_uA, gA_sD, gD_sF, gD_sA, gD_uA, gD_sD]) ?_
                    refine pw_iload r_5_addRow_104 rfl ?_
                    refine pw_iast r_5_addRow_106 sh50 (by omega) (by omega) ?_
                    refine pw_aload r_5_addRow_107 rfl ?_
                    refine pw_getR r_5_addRow_108 fs_5_1 (by decide) ?_
                    refine pw_aload r_5_addRow_111 rfl ?_
                    refine pw_getIv (v := gF G 5 (0) 0) r_5_addRow_112 fs_5_0 (by decide) (by first | rfl | simp [gF_sF, gF_sA, gF_uA, gF_sD, gA_sF, gA_sA, gA_uA, gA_sD, gD_sF, gD_sA, gD_uA, gD_sD]) ?_
                    refine pw_iload r_5_addRow_115 rfl ?_
                    refine pw_iast r_5_addRow_116 sh47 (by omega) (by omega) ?_
                    refine pw_aload r_5_addRow_117 rfl ?_
                    refine pw_getR r_5_addRow_118 fs_5_4 (by decide) ?_
                    refine pw_aload r_5_addRow_121 rfl ?_
                    refine pw_getIv (v := gF G 5 (0) 0) r_5_addRow_122 fs_5_0 (by decide) (by first | rfl | simp [gF_sF, gF_sA, gF_uA, gF_sD, gA_sF, gA_sA, gA_uA, gA_sD, gD_sF, gD_sA, gD_uA, gD_sD]) ?_
                    refine pw_iload r_5_addRow_125 rfl ?_
                    refine pw_iast r_5_addRow_126 sh51 (by omega) (by omega) ?_
                    refine pw_aload r_5_addRow_127 rfl ?_
                    refine pw_getR r_5_addRow_128 fs_5_5 (by decide) ?_
                    refine pw_aload r_5_addRow_131 rfl ?_
                    refine pw_getIv (v := gF G 5 (0) 0) r_5_addRow_132 fs_5_0 (by decide) (by first | rfl | simp [gF_sF, gF_sA, gF_uA, gF_sD, gA_sF, gA_sA, gA_uA, gA_sD, gD_sF, gD_sA, gD_uA, gD_sD]) ?_
                    refine pw_iload r_5_addRow_135 rfl ?_
                    refine pw_iast r_5_addRow_137 sh52 (by omega) (by omega) ?_
                    refine pw_aload r_5_addRow_138 rfl ?_
                    refine pw_dup r_5_addRow_139 rfl ?_
                    refine pw_getIv (v := gF G 5 (0) 0) r_5_addRow_140 fs_5_0 (by decide) (by first | rfl | simp [gF_sF, gF_sA, gF_uA, gF_sD, gA_sF, gA_sA, gA_uA, gA_sD, gD_sF, gD_sA, gD_uA, gD_sD]) ?_
                    refine pw_const r_5_addRow_143 ?_
                    refine pw_iadd r_5_addRow_144 (by omega) ?_
                    refine pw_putI r_5_addRow_145 (by decide +kernel) fs_5_0 (by decide) ?_
                    refine pw_aload r_5_addRow_148 rfl ?_
                    refine pw_getIv (v := ((gF G 5 (0) 0) + 1)) r_5_addRow_149 fs_5_0 (by decide) (by first | rfl | simp [gF_sF, gF_sA, gF_uA, gF_sD, gA_sF, gA_sA, gA_uA, gA_sD, gD_sF, gD_sA, gD_uA, gD_sD]) ?_
                    refine pw_const r_5_addRow_152 ?_
                    refine pw_isub r_5_addRow_153 (by omega) ?_
                    refine pw_iret r_5_addRow_154 rfl (Nat.le_refl _) ⟨rfl, ?_⟩
                    first | (exfalso; omega) | exact h1 (fun q => by have q1 := q.1; have q2 := q.2.2; clear q; omega) | exact h1 (fun q => hnw q.2.1) | exact h2 ⟨by omega, ⟨n, hn0, hn5, hW⟩, by omega, by omega, by omega⟩ (by omega) | exact pe (h3 hok (by omega) n F ⟨hn0, hn5, hW⟩ (fun x a b => hF x a (by omega))) (by first | rfl | omega)
                  · skip
                    refine pw_aload r_5_addRow_66 rfl ?_
                    refine pw_getR r_5_addRow_67 fs_5_2 (by decide) ?_
                    refine pw_aload r_5_addRow_70 rfl ?_
                    refine pw_getIv (v := gF G 5 (0) 0) r_5_addRow_71 fs_5_0 (by decide) (by first | rfl | simp [gF_sF, gF_sA, gF_uA, gF_sD, gA_sF, gA_sA, gA_uA, gA_sD, gD_sF, gD_sA, gD_uA, gD_sD]) ?_
                    refine pw_aaldS r_5_addRow_74 sh48 (by decide) (by decide) aS48 rw49 (by omega) (by omega) ?_
                    refine pw_iload r_5_addRow_75 rfl ?_
                    refine pw_iload r_5_addRow_77 rfl ?_
                    refine pw_const r_5_addRow_79 ?_
                    refine pw_iremN r_5_addRow_81 (by omega) (by omega) ?_
                    refine pw_iast r_5_addRow_82 sh49 (by omega) (by omega) ?_
                    refine pw_iload r_5_addRow_83 rfl ?_
                    refine pw_const r_5_addRow_85 ?_
                    refine pw_idivN r_5_addRow_87 (by omega) (by omega) (by omega) ?_
                    refine pw_istore (ls' := [some (vR 5 (0)), some (vI (s)), some (vI (g)), some (vI (a)), some (vI (u)), some (vI (n)), some (vI ((z / 28))), some (vI (i))]) r_5_addRow_88 rfl rfl ?_
                    refine pw_iinc (b := 0) (ls' := [some (vR 5 (0)), some (vI (s)), some (vI (g)), some (vI (a)), some (vI (u)), some (vI (n)), some (vI ((z / 28))), some (vI ((i + 1)))]) r_5_addRow_90 rfl rfl (by omega) rfl ?_
                    refine pw_goto r_5_addRow_93 ?_
                    refine pw_eqG (G' := uA G 49 (gF G 5 (0) 0) ((upA F i (z % 28)))) (by first | rfl | (rw [uA_self]; done) | (rw [sA_uA]; done) | (rw [sA_eq]; done) | (simp (disch := decide) only [sA_uA, sA_uA_ne, uA_abs, uA_abs2, uA_uA]; done) | (simp (disch := decide) only [sA_eq, sA_uA, sA_uA_ne, uA_abs, uA_abs2, uA_uA]; done) | (refine PH_ext (fun _ _ _ => ?_) (fun _ _ _ => ?_) (fun _ _ _ => ?_) <;> simp only [gF_sF, gF_sA, gF_uA, gF_sD, gA_sF, gA_sA, gA_uA, gA_sD, gD_sF, gD_sA, gD_uA, gD_sD] <;> (repeat' split) <;> first | rfl | (exfalso; omega) | simp_all)) ?_
                    exact ih60 ((i + 1)) ((z / 28)) ((upA F i (z % 28))) (by omega) (by rw [sh_s g hi.1, ← hz]) (all_s (fun x a b => by rw [upA_ne (by omega)]; exact hF x a b) (by rw [upA_same, ← hz])) (by omega) (by omega)
              refine pw_eqG (G' := uA G 49 (gF G 5 (0) 0) (fun j => (gA G 49 ((gF G 5 0 0)) (j)))) (by rw [uA_self]) ?_
              exact L60 _ (0) (g) (fun j => (gA G 49 ((gF G 5 0 0)) (j))) (by omega) (rfl) (fun j a b => by omega) (by omega) (Nat.lt_succ_self _)
            · skip
              refine pw_const r_5_addRow_51 ?_
              refine pw_iret r_5_addRow_53 rfl (Nat.le_refl _) ⟨rfl, ?_⟩
              first | (exfalso; omega) | exact h1 (fun q => by have q1 := q.1; have q2 := q.2.2; clear q; omega) | exact h1 (fun q => hnw q.2.1) | exact h2 ⟨by omega, ⟨n, hn0, hn5, hW⟩, by omega, by omega, by omega⟩ (by omega) | exact pe (h3 hok (by omega) n F ⟨hn0, hn5, hW⟩ (fun x a b => hF x a (by omega))) (by first | rfl | omega)
          · skip
            refine pw_const r_5_addRow_40 ?_
            refine pw_iret r_5_addRow_41 rfl (Nat.le_refl _) ⟨rfl, ?_⟩
            first | (exfalso; omega) | exact h1 (fun q => by have q1 := q.1; have q2 := q.2.2; clear q; omega) | exact h1 (fun q => hnw q.2.1) | exact h2 ⟨by omega, ⟨n, hn0, hn5, hW⟩, by omega, by omega, by omega⟩ (by omega) | exact pe (h3 hok (by omega) n F ⟨hn0, hn5, hW⟩ (fun x a b => hF x a (by omega))) (by first | rfl | omega)
set_option maxRecDepth 10000 in
theorem sp_X12_addRow {l : Launch} {w : Wo} {d : Nat} {G : PH} {P : Option PV → PH → Prop} {s g a u : Int} (hrw : 0 ≤ (gF G 12 0 55) ∧ (gF G 12 0 55) < 100) (hP : P (some (vI (gF G 12 0 55))) (sF (sA (sA (sA (sA G 236 0 ((gF G 12 0 55)) (s)) 237 0 ((gF G 12 0 55)) (g)) 238 0 ((gF G 12 0 55)) (a)) 239 0 ((gF G 12 0 55)) (u)) 12 0 55 ((gF G 12 0 55) + 1))) : PW l w M_X12_addRow (d + 0) 0 [some (vR 12 (0)), some (vI (s)), some (vI (g)), some (vI (a)), some (vI (u))] [] G P := by
  refine pw_aload r_12_addRow_0 rfl ?_
  refine pw_getR r_12_addRow_1 fs_12_51 (by decide) ?_
  refine pw_aload r_12_addRow_4 rfl ?_
  refine pw_getI r_12_addRow_5 fs_12_55 (by decide) ?_
  refine pw_iload r_12_addRow_8 rfl ?_
  refine pw_iast r_12_addRow_9 sh236 (by omega) (by omega) ?_
  refine pw_aload r_12_addRow_10 rfl ?_
  refine pw_getR r_12_addRow_11 fs_12_52 (by decide) ?_
  refine pw_aload r_12_addRow_14 rfl ?_
  refine pw_getIv (v := gF G 12 (0) 55) r_12_addRow_15 fs_12_55 (by decide) (by first | rfl | simp [gF_sF, gF_sA, gF_uA, gF_sD, gA_sF, gA_sA, gA_uA, gA_sD, gD_sF, gD_sA, gD_uA, gD_sD]) ?_
  refine pw_iload r_12_addRow_18 rfl ?_
  refine pw_iast r_12_addRow_19 sh237 (by omega) (by omega) ?_
  refine pw_aload r_12_addRow_20 rfl ?_
  refine pw_getR r_12_addRow_21 fs_12_53 (by decide) ?_
  refine pw_aload r_12_addRow_24 rfl ?_
  refine pw_getIv (v := gF G 12 (0) 55) r_12_addRow_25 fs_12_55 (by decide) (by first | rfl | simp [gF_sF, gF_sA, gF_uA, gF_sD, gA_sF, gA_sA, gA_uA, gA_sD, gD_sF, gD_sA, gD_uA, gD_sD]) ?_
  refine pw_iload r_12_addRow_28 rfl ?_
  refine pw_iast r_12_addRow_29 sh238 (by omega) (by omega) ?_
  refine pw_aload r_12_addRow_30 rfl ?_
  refine pw_getR r_12_addRow_31 fs_12_54 (by decide) ?_
  refine pw_aload r_12_addRow_34 rfl ?_
  refine pw_getIv (v := gF G 12 (0) 55) r_12_addRow_35 fs_12_55 (by decide) (by first | rfl | simp [gF_sF, gF_sA, gF_uA, gF_sD, gA_sF, gA_sA, gA_uA, gA_sD, gD_sF, gD_sA, gD_uA, gD_sD]) ?_
  refine pw_iload r_12_addRow_38 rfl ?_
  refine pw_iast r_12_addRow_40 sh239 (by omega) (by omega) ?_
  refine pw_aload r_12_addRow_41 rfl ?_
  refine pw_dup r_12_addRow_42 rfl ?_
  refine pw_getIv (v := gF G 12 (0) 55) r_12_addRow_43 fs_12_55 (by decide) (by first | rfl | simp [gF_sF, gF_sA, gF_uA, gF_sD, gA_sF, gA_sA, gA_uA, gA_sD, gD_sF, gD_sA, gD_uA, gD_sD]) ?_
  refine pw_const r_12_addRow_46 ?_
  refine pw_iadd r_12_addRow_47 (by omega) ?_
  refine pw_putI r_12_addRow_48 (by decide +kernel) fs_12_55 (by decide) ?_
  refine pw_aload r_12_addRow_51 rfl ?_
  refine pw_getIv (v := ((gF G 12 (0) 55) + 1)) r_12_addRow_52 fs_12_55 (by decide) (by first | rfl | simp [gF_sF, gF_sA, gF_uA, gF_sD, gA_sF, gA_sA, gA_uA, gA_sD, gD_sF, gD_sA, gD_uA, gD_sD]) ?_
  refine pw_const r_12_addRow_55 ?_
  refine pw_isub r_12_addRow_56 (by omega) ?_
  refine pw_iret r_12_addRow_57 rfl (Nat.le_refl _) ⟨rfl, ?_⟩
  exact pe hP (by omega)
set_option maxRecDepth 10000 in
theorem sp_X12_row {l : Launch} {w : Wo} {d : Nat} {G : PH} {P : Option PV → PH → Prop} {s g a u : Int} (hrw : 0 ≤ (gF G 12 0 55) ∧ (gF G 12 0 55) ≤ 100) (h1 : ¬ ((0 ≤ s ∧ s ≤ 1) ∧ (∃ n, 0 ≤ n ∧ n ≤ 5 ∧ WordN g n) ∧ (-1 ≤ a ∧ a ≤ 99) ∧ -1 ≤ u ∧ u ≤ 99) → P (some (vI (-1))) G) (h2 : (((0 ≤ s ∧ s ≤ 1) ∧ (∃ n, 0 ≤ n ∧ n ≤ 5 ∧ WordN g n) ∧ (-1 ≤ a ∧ a ≤ 99) ∧ -1 ≤ u ∧ u ≤ 99)) → ((gF G 12 0 55) = 100) → P (some (vI (-2))) G) (h3 : (((0 ≤ s ∧ s ≤ 1) ∧ (∃ n, 0 ≤ n ∧ n ≤ 5 ∧ WordN g n) ∧ (-1 ≤ a ∧ a ≤ 99) ∧ -1 ≤ u ∧ u ≤ 99)) → ((gF G 12 0 55) < 100) → P (some (vI (gF G 12 0 55))) (sF (sA (sA (sA (sA G 236 0 ((gF G 12 0 55)) (s)) 237 0 ((gF G 12 0 55)) (g)) 238 0 ((gF G 12 0 55)) (a)) 239 0 ((gF G 12 0 55)) (u)) 12 0 55 ((gF G 12 0 55) + 1))) : PW l w M_X12_row (d + 2) 0 [some (vR 12 (0)), some (vI (s)), some (vI (g)), some (vI (a)), some (vI (u))] [] G P := by
  refine pw_iload r_12_row_0 rfl ?_
  refine pw_callS (av := [vI (s)]) (st := []) (ls0 := [some (vI (s))]) r_12_row_1 rfl rfl rfl (Nat.le_refl _) ?_
  refine sp_X12_isSide  ?_
  refine pw_if_eqB r_12_row_4 (fun h04 => ?_) (fun h04 => ?_)
  · skip
    refine pw_const r_12_row_35 ?_
    refine pw_iret r_12_row_36 rfl (Nat.le_refl _) ⟨rfl, ?_⟩
    first | exact h1 (fun q => by omega) | exact h1 (fun q => absurd q.2.1 (by assumption)) | exact h2 ⟨by omega, by assumption, by omega, by omega, by omega⟩ (by omega) | exact h3 ⟨by omega, by assumption, by omega, by omega, by omega⟩ (by omega)
  · skip
    refine pw_iload r_12_row_7 rfl ?_
    refine pw_callS (av := [vI (g)]) (st := []) (ls0 := [some (vI (g)), none, none]) r_12_row_8 rfl rfl rfl (Nat.le_refl _) ?_
    refine sp_X12_isWord  ?_
    refine pw_if_eqB r_12_row_11 (fun h11 => ?_) (fun h11 => ?_)
    · skip
      refine pw_const r_12_row_35 ?_
      refine pw_iret r_12_row_36 rfl (Nat.le_refl _) ⟨rfl, ?_⟩
      first | exact h1 (fun q => by omega) | exact h1 (fun q => absurd q.2.1 (by assumption)) | exact h2 ⟨by omega, by assumption, by omega, by omega, by omega⟩ (by omega) | exact h3 ⟨by omega, by assumption, by omega, by omega, by omega⟩ (by omega)
    · skip
      refine pw_iload r_12_row_14 rfl ?_
      refine pw_const r_12_row_15 ?_
      refine pw_const r_12_row_16 ?_
      refine pw_callS (av := [vI (a), vI ((-1)), vI (99)]) (st := []) (ls0 := [some (vI (a)), some (vI ((-1))), some (vI (99))]) r_12_row_18 rfl rfl rfl (Nat.le_refl _) ?_
      refine sp_X12_within  ?_
      refine pw_if_eqB r_12_row_21 (fun h21 => ?_) (fun h21 => ?_)
      · skip
        refine pw_const r_12_row_35 ?_
        refine pw_iret r_12_row_36 rfl (Nat.le_refl _) ⟨rfl, ?_⟩
        first | exact h1 (fun q => by omega) | exact h1 (fun q => absurd q.2.1 (by assumption)) | exact h2 ⟨by omega, by assumption, by omega, by omega, by omega⟩ (by omega) | exact h3 ⟨by omega, by assumption, by omega, by omega, by omega⟩ (by omega)
      · skip
        refine pw_iload r_12_row_24 rfl ?_
        refine pw_const r_12_row_26 ?_
        refine pw_const r_12_row_27 ?_
        refine pw_callS (av := [vI (u), vI ((-1)), vI (99)]) (st := []) (ls0 := [some (vI (u)), some (vI ((-1))), some (vI (99))]) r_12_row_29 rfl rfl rfl (Nat.le_refl _) ?_
        refine sp_X12_within  ?_
        refine pw_if_neB r_12_row_32 (fun h32 => ?_) (fun h32 => ?_)
        · skip
          refine pw_aload r_12_row_37 rfl ?_
          refine pw_getI r_12_row_38 fs_12_55 (by decide) ?_
          refine pw_const r_12_row_41 ?_
          refine pw_icmp_ne r_12_row_43 (fun h43 => ?_) (fun h43 => ?_)
          · skip
            refine pw_aload r_12_row_51 rfl ?_
            refine pw_iload r_12_row_52 rfl ?_
            refine pw_iload r_12_row_53 rfl ?_
            refine pw_iload r_12_row_54 rfl ?_
            refine pw_iload r_12_row_55 rfl ?_
            refine pw_callV (av := [vI (s), vI (g), vI (a), vI (u)]) (st := []) (ls0 := [some (vR 12 (0)), some (vI (s)), some (vI (g)), some (vI (a)), some (vI (u))]) r_12_row_57 rfl rfl rfl (Nat.le_refl _) ?_
            refine sp_X12_addRow (by first | assumption | exact hrw | omega) ?_
            refine pw_eqG (G' := sF (sA (sA (sA (sA G 236 (0) ((gF G 12 (0) 55)) (s)) 237 (0) ((gF G 12 (0) 55)) (g)) 238 (0) ((gF G 12 (0) 55)) (a)) 239 (0) ((gF G 12 (0) 55)) (u)) 12 (0) 55 ((gF G 12 (0) 55) + 1)) (by first | rfl | simp (disch := decide) [gF_sF, gF_sA, gF_uA, gF_sD, gA_sF, gA_sA, gA_uA, gA_sD, gD_sF, gD_sA, gD_uA, gD_sD]) ?_
            refine pw_iret r_12_row_60 rfl (Nat.le_refl _) ⟨rfl, ?_⟩
            first | exact h1 (fun q => by omega) | exact h1 (fun q => absurd q.2.1 (by assumption)) | exact h2 ⟨by omega, by assumption, by omega, by omega, by omega⟩ (by omega) | exact h3 ⟨by omega, by assumption, by omega, by omega, by omega⟩ (by omega)
          · skip
            refine pw_const r_12_row_46 ?_
            refine pw_goto r_12_row_48 ?_
            refine pw_iret r_12_row_60 rfl (Nat.le_refl _) ⟨rfl, ?_⟩
            first | exact h1 (fun q => by omega) | exact h1 (fun q => absurd q.2.1 (by assumption)) | exact h2 ⟨by omega, by assumption, by omega, by omega, by omega⟩ (by omega) | exact h3 ⟨by omega, by assumption, by omega, by omega, by omega⟩ (by omega)
        · skip
          refine pw_const r_12_row_35 ?_
          refine pw_iret r_12_row_36 rfl (Nat.le_refl _) ⟨rfl, ?_⟩
          first | exact h1 (fun q => by omega) | exact h1 (fun q => absurd q.2.1 (by assumption)) | exact h2 ⟨by omega, by assumption, by omega, by omega, by omega⟩ (by omega) | exact h3 ⟨by omega, by assumption, by omega, by omega, by omega⟩ (by omega)
set_option maxRecDepth 10000 in
theorem sp_X5_isToldOrBlank {l : Launch} {w : Wo} {d : Nat} {G : PH} {P : Option PV → PH → Prop} {v : Int} (hP : P (some (vI (b2i (v = (gF G 5 0 12) ∨ (0 ≤ v ∧ v ≤ 99))))) G) : PW l w M_X5_isToldOrBlank (d + 1) 0 [some (vR 5 (0)), some (vI (v))] [] G P := by
  refine pw_iload r_5_isToldOrBlank_0 rfl ?_
  refine pw_aload r_5_isToldOrBlank_1 rfl ?_
  refine pw_getI r_5_isToldOrBlank_2 fs_5_12 (by decide) ?_
  refine pw_icmp_eq r_5_isToldOrBlank_5 (fun h05 => ?_) (fun h05 => ?_)
  · skip
    refine pw_const r_5_isToldOrBlank_18 ?_
    refine pw_goto r_5_isToldOrBlank_19 ?_
    refine pw_zret r_5_isToldOrBlank_23 rfl (Or.inr rfl) (Nat.le_refl _) ⟨rfl, ?_⟩
    exact pe hP (by first | rfl | omega | exact (b2i_t (by omega)).symm | exact (b2i_f (by omega)).symm)
  · skip
    refine pw_iload r_5_isToldOrBlank_8 rfl ?_
    refine pw_const r_5_isToldOrBlank_9 ?_
    refine pw_const r_5_isToldOrBlank_10 ?_
    refine pw_callS (av := [vI (v), vI (0), vI (99)]) (st := []) (ls0 := [some (vI (v)), some (vI (0)), some (vI (99))]) r_5_isToldOrBlank_12 rfl rfl rfl (Nat.le_refl _) ?_
    refine sp_X11_within  ?_
    refine pw_if_eqB r_5_isToldOrBlank_15 (fun h15 => ?_) (fun h15 => ?_)
    · skip
      refine pw_const r_5_isToldOrBlank_22 ?_
      refine pw_zret r_5_isToldOrBlank_23 rfl (Or.inl rfl) (Nat.le_refl _) ⟨rfl, ?_⟩
      exact pe hP (by first | rfl | omega | exact (b2i_t (by omega)).symm | exact (b2i_f (by omega)).symm)
    · skip
      refine pw_const r_5_isToldOrBlank_18 ?_
      refine pw_goto r_5_isToldOrBlank_19 ?_
      refine pw_zret r_5_isToldOrBlank_23 rfl (Or.inr rfl) (Nat.le_refl _) ⟨rfl, ?_⟩
      exact pe hP (by first | rfl | omega | exact (b2i_t (by omega)).symm | exact (b2i_f (by omega)).symm)
set_option maxRecDepth 10000 in
theorem sp_X5_takeThree {l : Launch} {w : Wo} {d : Nat} {G : PH} {P : Option PV → PH → Prop} {s t q : Int} (hrw : 0 ≤ (gF G 5 0 0) ∧ (gF G 5 0 0) ≤ 100) (hs1 : 0 ≤ s ∧ s ≤ 1) (ht4 : 0 ≤ t ∧ t < 4) (hq : 0 ≤ q ∧ q ≤ 57) (h1 : ¬ goodC G t q → P (some (vI 0)) G) (h2 : goodC G t q → 100 ≤ (gF G 5 0 0) → P (some (vI 0)) G) (h3 : goodC G t q → (gF G 5 0 0) < 100 → ∀ a u n lt, (((gA G 57 (t) (q)) = (gF G 5 0 12) ∧ a = -1) ∨ ((gA G 57 (t) (q)) ≠ (gF G 5 0 12) ∧ a = (gA G 57 (t) (q)))) → (((gA G 57 (t) (q + 1)) = (gF G 5 0 12) ∧ u = -1) ∨ ((gA G 57 (t) (q + 1)) ≠ (gF G 5 0 12) ∧ u = (gA G 57 (t) (q + 1)))) → (0 ≤ n ∧ n ≤ 5 ∧ WordN (gA G 57 (t) (q + 2)) n) → (∀ x, 0 ≤ x → x < 5 → lt x = lft (gA G 57 (t) (q + 2)) x % 28) → P (some (vI 1)) (sF (sA (sA (sA (sA (uA G 49 ((gF G 5 0 0)) (lt)) 50 0 ((gF G 5 0 0)) (n)) 47 0 ((gF G 5 0 0)) (s)) 51 0 ((gF G 5 0 0)) (a)) 52 0 ((gF G 5 0 0)) (u)) 5 0 0 ((gF G 5 0 0) + 1))) : PW l w M_X5_takeThree (d + 2) 0 [some (vR 5 (0)), some (vI (s)), some (vR 57 (t)), some (vI (q)), none, none, none] [] G P := by
  refine pw_iload r_5_takeThree_0 rfl ?_
  refine pw_if_lt r_5_takeThree_1 (fun h01 => absurd h01 (by omega)) (fun h01 => ?_)
  refine pw_iload r_5_takeThree_4 rfl ?_
  refine pw_aload r_5_takeThree_5 rfl ?_
  refine pw_alen r_5_takeThree_6 sh57 (by decide) ?_
  refine pw_top (b := 60) rfl ?_
  refine pw_const r_5_takeThree_7 ?_
  refine pw_isub r_5_takeThree_8 (by omega) ?_
  refine pw_icmp_le r_5_takeThree_9 (fun h09 => ?_) (fun h09 => absurd h09 (by omega))
  refine pw_aload r_5_takeThree_14 rfl ?_
  refine pw_iload r_5_takeThree_15 rfl ?_
  refine pw_sald r_5_takeThree_16 sh57 (by omega) (by omega) ?_
  refine pw_istore (ls' := [some (vR 5 (0)), some (vI (s)), some (vR 57 (t)), some (vI (q)), some (vI (gA G 57 (t) (q))), none, none]) r_5_takeThree_17 rfl rfl ?_
  refine pw_aload r_5_takeThree_19 rfl ?_
  refine pw_iload r_5_takeThree_20 rfl ?_
  refine pw_const r_5_takeThree_21 ?_
  refine pw_iadd r_5_takeThree_22 (by omega) ?_
  refine pw_sald r_5_takeThree_23 sh57 (by omega) (by omega) ?_
  refine pw_istore (ls' := [some (vR 5 (0)), some (vI (s)), some (vR 57 (t)), some (vI (q)), some (vI (gA G 57 (t) (q))), some (vI (gA G 57 (t) ((q + 1)))), none]) r_5_takeThree_24 rfl rfl ?_
  refine pw_aload r_5_takeThree_26 rfl ?_
  refine pw_iload r_5_takeThree_27 rfl ?_
  refine pw_const r_5_takeThree_28 ?_
  refine pw_iadd r_5_takeThree_29 (by omega) ?_
  refine pw_sald r_5_takeThree_30 sh57 (by omega) (by omega) ?_
  refine pw_istore (ls' := [some (vR 5 (0)), some (vI (s)), some (vR 57 (t)), some (vI (q)), some (vI (gA G 57 (t) (q))), some (vI (gA G 57 (t) ((q + 1)))), some (vI (gA G 57 (t) ((q + 2))))]) r_5_takeThree_31 rfl rfl ?_
  refine pw_aload r_5_takeThree_33 rfl ?_
  refine pw_iload r_5_takeThree_34 rfl ?_
  refine pw_callV (av := [vI (gA G 57 (t) (q))]) (st := []) (ls0 := [some (vR 5 (0)), some (vI (gA G 57 (t) (q)))]) r_5_takeThree_36 rfl rfl rfl (Nat.le_refl _) ?_
  refine sp_X5_isToldOrBlank  ?_
  refine pw_if_eqB r_5_takeThree_39 (fun h39 => ?_) (fun h39 => ?_)
  · skip
    refine pw_const r_5_takeThree_62 ?_
    refine pw_zret r_5_takeThree_63 rfl (Or.inl rfl) (Nat.le_refl _) ⟨rfl, ?_⟩
    first | (exfalso; omega) | exact h1 (fun z => by unfold goodC at z; omega) | exact h2 hgd (by omega) | exact h3 hgd (by omega) _ _ n lt (by omega) (by omega) hn hl
  · skip
    refine pw_aload r_5_takeThree_42 rfl ?_
    refine pw_iload r_5_takeThree_43 rfl ?_
    refine pw_callV (av := [vI (gA G 57 (t) ((q + 1)))]) (st := []) (ls0 := [some (vR 5 (0)), some (vI (gA G 57 (t) ((q + 1))))]) r_5_takeThree_45 rfl rfl rfl (Nat.le_refl _) ?_
    refine sp_X5_isToldOrBlank  ?_
    refine pw_if_eqB r_5_takeThree_48 (fun h48 => ?_) (fun h48 => ?_)
    · skip
      refine pw_const r_5_takeThree_62 ?_
      refine pw_zret r_5_takeThree_63 rfl (Or.inl rfl) (Nat.le_refl _) ⟨rfl, ?_⟩
      first | (exfalso; omega) | exact h1 (fun z => by unfold goodC at z; omega) | exact h2 hgd (by omega) | exact h3 hgd (by omega) _ _ n lt (by omega) (by omega) hn hl
    · skip
      refine pw_iload r_5_takeThree_51 rfl ?_
      refine pw_const r_5_takeThree_53 ?_
      refine pw_const r_5_takeThree_54 ?_
      refine pw_callS (av := [vI (gA G 57 (t) ((q + 2))), vI (1), vI (27)]) (st := []) (ls0 := [some (vI (gA G 57 (t) ((q + 2)))), some (vI (1)), some (vI (27))]) r_5_takeThree_56 rfl rfl rfl (Nat.le_refl _) ?_
      refine sp_X11_within  ?_
      refine pw_if_neB r_5_takeThree_59 (fun h59 => ?_) (fun h59 => ?_)
      · skip
        have hgd : goodC G t q := ⟨by omega, by omega, by omega, by omega⟩
        have hsh : WordN (gA G 57 (t) (q + 2)) 1 := ⟨by omega, fun j a b => by rw [show j = 0 by omega, sh_0]; omega, by show lft (gA G 57 (t) (q + 2)) (0 + 1) = 0; rw [sh_s _ (by omega), sh_0]; omega⟩
        refine pw_aload r_5_takeThree_64 rfl ?_
        refine pw_iload r_5_takeThree_65 rfl ?_
        refine pw_iload r_5_takeThree_66 rfl ?_
        refine pw_iload r_5_takeThree_68 rfl ?_
        refine pw_aload r_5_takeThree_70 rfl ?_
        refine pw_getI r_5_takeThree_71 fs_5_12 (by decide) ?_
        refine pw_icmp_ne r_5_takeThree_74 (fun h74 => ?_) (fun h74 => ?_)
        · skip
          refine pw_iload r_5_takeThree_81 rfl ?_
          refine pw_iload r_5_takeThree_83 rfl ?_
          refine pw_aload r_5_takeThree_85 rfl ?_
          refine pw_getI r_5_takeThree_86 fs_5_12 (by decide) ?_
          refine pw_icmp_ne r_5_takeThree_89 (fun h89 => ?_) (fun h89 => ?_)
          · skip
            refine pw_iload r_5_takeThree_96 rfl ?_
            refine pw_callV (av := [vI (s), vI (gA G 57 (t) ((q + 2))), vI (gA G 57 (t) (q)), vI (gA G 57 (t) ((q + 1)))]) (st := []) (ls0 := [some (vR 5 (0)), some (vI (s)), some (vI (gA G 57 (t) ((q + 2)))), some (vI (gA G 57 (t) (q))), some (vI (gA G 57 (t) ((q + 1)))), none, none, none]) r_5_takeThree_98 rfl rfl rfl (Nat.le_refl _) ?_
            refine sp_X5_addRow (by first | assumption | exact hrw | omega) ?_ ?_ ?_
            · skip
              intro qf; exact absurd (show _ from ⟨hs1, ⟨1, by decide, by decide, hsh⟩, by omega, by omega, by omega⟩) qf
            · skip
              intro qf1 qf2
              refine pw_if_lt r_5_takeThree_101 (fun h101 => ?_) (fun h101 => absurd h101 (by decide))
              refine pw_const r_5_takeThree_108 ?_
              refine pw_zret r_5_takeThree_109 rfl (Or.inl rfl) (Nat.le_refl _) ⟨rfl, ?_⟩
              first | (exfalso; omega) | exact h1 (fun z => by unfold goodC at z; omega) | exact h2 hgd (by omega) | exact h3 hgd (by omega) _ _ n lt (by omega) (by omega) hn hl
            · skip
              intro qf1 qf2 n lt hn hl
              refine pw_eqG (G' := sF (sA (sA (sA (sA (uA G 49 ((gF G 5 (0) 0)) (lt)) 50 (0) ((gF G 5 (0) 0)) (n)) 47 (0) ((gF G 5 (0) 0)) (s)) 51 (0) ((gF G 5 (0) 0)) ((gA G 57 (t) (q)))) 52 (0) ((gF G 5 (0) 0)) ((gA G 57 (t) ((q + 1))))) 5 (0) 0 ((gF G 5 (0) 0) + 1)) (by first | rfl | simp (disch := decide) [gF_sF, gF_sA, gF_uA, gF_sD, gA_sF, gA_sA, gA_uA, gA_sD, gD_sF, gD_sA, gD_uA, gD_sD]) ?_
              refine pw_if_lt r_5_takeThree_101 (fun h101 => ?_) (fun h101 => ?_)
              · skip
                refine pw_const r_5_takeThree_108 ?_
                refine pw_zret r_5_takeThree_109 rfl (Or.inl rfl) (Nat.le_refl _) ⟨rfl, ?_⟩
                first | (exfalso; omega) | exact h1 (fun z => by unfold goodC at z; omega) | exact h2 hgd (by omega) | exact h3 hgd (by omega) _ _ n lt (by omega) (by omega) hn hl
              · skip
                refine pw_const r_5_takeThree_104 ?_
                refine pw_goto r_5_takeThree_105 ?_
                refine pw_zret r_5_takeThree_109 rfl (Or.inr rfl) (Nat.le_refl _) ⟨rfl, ?_⟩
                first | (exfalso; omega) | exact h1 (fun z => by unfold goodC at z; omega) | exact h2 hgd (by omega) | exact h3 hgd (by omega) _ _ n lt (by omega) (by omega) hn hl
          · skip
            refine pw_const r_5_takeThree_92 ?_
            refine pw_goto r_5_takeThree_93 ?_
            refine pw_callV (av := [vI (s), vI (gA G 57 (t) ((q + 2))), vI (gA G 57 (t) (q)), vI ((-1))]) (st := []) (ls0 := [some (vR 5 (0)), some (vI (s)), some (vI (gA G 57 (t) ((q + 2)))), some (vI (gA G 57 (t) (q))), some (vI ((-1))), none, none, none]) r_5_takeThree_98 rfl rfl rfl (Nat.le_refl _) ?_
            refine sp_X5_addRow (by first | assumption | exact hrw | omega) ?_ ?_ ?_
            · skip
              intro qf; exact absurd (show _ from ⟨hs1, ⟨1, by decide, by decide, hsh⟩, by omega, by omega, by omega⟩) qf
            · skip
              intro qf1 qf2
              refine pw_if_lt r_5_takeThree_101 (fun h101 => ?_) (fun h101 => absurd h101 (by decide))
              refine pw_const r_5_takeThree_108 ?_
              refine pw_zret r_5_takeThree_109 rfl (Or.inl rfl) (Nat.le_refl _) ⟨rfl, ?_⟩
              first | (exfalso; omega) | exact h1 (fun z => by unfold goodC at z; omega) | exact h2 hgd (by omega) | exact h3 hgd (by omega) _ _ n lt (by omega) (by omega) hn hl
            · skip
              intro qf1 qf2 n lt hn hl
              refine pw_eqG (G' := sF (sA (sA (sA (sA (uA G 49 ((gF G 5 (0) 0)) (lt)) 50 (0) ((gF G 5 (0) 0)) (n)) 47 (0) ((gF G 5 (0) 0)) (s)) 51 (0) ((gF G 5 (0) 0)) ((gA G 57 (t) (q)))) 52 (0) ((gF G 5 (0) 0)) ((-1))) 5 (0) 0 ((gF G 5 (0) 0) + 1)) (by first | rfl | simp (disch := decide) [gF_sF, gF_sA, gF_uA, gF_sD, gA_sF, gA_sA, gA_uA, gA_sD, gD_sF, gD_sA, gD_uA, gD_sD]) ?_
              refine pw_if_lt r_5_takeThree_101 (fun h101 => ?_) (fun h101 => ?_)
              · skip
                refine pw_const r_5_takeThree_108 ?_
                refine pw_zret r_5_takeThree_109 rfl (Or.inl rfl) (Nat.le_refl _) ⟨rfl, ?_⟩
                first | (exfalso; omega) | exact h1 (fun z => by unfold goodC at z; omega) | exact h2 hgd (by omega) | exact h3 hgd (by omega) _ _ n lt (by omega) (by omega) hn hl
              · skip
                refine pw_const r_5_takeThree_104 ?_
                refine pw_goto r_5_takeThree_105 ?_
                refine pw_zret r_5_takeThree_109 rfl (Or.inr rfl) (Nat.le_refl _) ⟨rfl, ?_⟩
                first | (exfalso; omega) | exact h1 (fun z => by unfold goodC at z; omega) | exact h2 hgd (by omega) | exact h3 hgd (by omega) _ _ n lt (by omega) (by omega) hn hl
        · skip
          refine pw_const r_5_takeThree_77 ?_
          refine pw_goto r_5_takeThree_78 ?_
          refine pw_iload r_5_takeThree_83 rfl ?_
          refine pw_aload r_5_takeThree_85 rfl ?_
          refine pw_getI r_5_takeThree_86 fs_5_12 (by decide) ?_
          refine pw_icmp_ne r_5_takeThree_89 (fun h89 => ?_) (fun h89 => ?_)
          · skip
            refine pw_iload r_5_takeThree_96 rfl ?_
            refine pw_callV (av := [vI (s), vI (gA G 57 (t) ((q + 2))), vI ((-1)), vI (gA G 57 (t) ((q + 1)))]) (st := []) (ls0 := [some (vR 5 (0)), some (vI (s)), some (vI (gA G 57 (t) ((q + 2)))), some (vI ((-1))), some (vI (gA G 57 (t) ((q + 1)))), none, none, none]) r_5_takeThree_98 rfl rfl rfl (Nat.le_refl _) ?_
            refine sp_X5_addRow (by first | assumption | exact hrw | omega) ?_ ?_ ?_
            · skip
              intro qf; exact absurd (show _ from ⟨hs1, ⟨1, by decide, by decide, hsh⟩, by omega, by omega, by omega⟩) qf
            · skip
              intro qf1 qf2
              refine pw_if_lt r_5_takeThree_101 (fun h101 => ?_) (fun h101 => absurd h101 (by decide))
              refine pw_const r_5_takeThree_108 ?_
              refine pw_zret r_5_takeThree_109 rfl (Or.inl rfl) (Nat.le_refl _) ⟨rfl, ?_⟩
              first | (exfalso; omega) | exact h1 (fun z => by unfold goodC at z; omega) | exact h2 hgd (by omega) | exact h3 hgd (by omega) _ _ n lt (by omega) (by omega) hn hl
            · skip
              intro qf1 qf2 n lt hn hl
              refine pw_eqG (G' := sF (sA (sA (sA (sA (uA G 49 ((gF G 5 (0) 0)) (lt)) 50 (0) ((gF G 5 (0) 0)) (n)) 47 (0) ((gF G 5 (0) 0)) (s)) 51 (0) ((gF G 5 (0) 0)) ((-1))) 52 (0) ((gF G 5 (0) 0)) ((gA G 57 (t) ((q + 1))))) 5 (0) 0 ((gF G 5 (0) 0) + 1)) (by first | rfl | simp (disch := decide) [gF_sF, gF_sA, gF_uA, gF_sD, gA_sF, gA_sA, gA_uA, gA_sD, gD_sF, gD_sA, gD_uA, gD_sD]) ?_
              refine pw_if_lt r_5_takeThree_101 (fun h101 => ?_) (fun h101 => ?_)
              · skip
                refine pw_const r_5_takeThree_108 ?_
                refine pw_zret r_5_takeThree_109 rfl (Or.inl rfl) (Nat.le_refl _) ⟨rfl, ?_⟩
                first | (exfalso; omega) | exact h1 (fun z => by unfold goodC at z; omega) | exact h2 hgd (by omega) | exact h3 hgd (by omega) _ _ n lt (by omega) (by omega) hn hl
              · skip
                refine pw_const r_5_takeThree_104 ?_
                refine pw_goto r_5_takeThree_105 ?_
                refine pw_zret r_5_takeThree_109 rfl (Or.inr rfl) (Nat.le_refl _) ⟨rfl, ?_⟩
                first | (exfalso; omega) | exact h1 (fun z => by unfold goodC at z; omega) | exact h2 hgd (by omega) | exact h3 hgd (by omega) _ _ n lt (by omega) (by omega) hn hl
          · skip
            refine pw_const r_5_takeThree_92 ?_
            refine pw_goto r_5_takeThree_93 ?_
            refine pw_callV (av := [vI (s), vI (gA G 57 (t) ((q + 2))), vI ((-1)), vI ((-1))]) (st := []) (ls0 := [some (vR 5 (0)), some (vI (s)), some (vI (gA G 57 (t) ((q + 2)))), some (vI ((-1))), some (vI ((-1))), none, none, none]) r_5_takeThree_98 rfl rfl rfl (Nat.le_refl _) ?_
            refine sp_X5_addRow (by first | assumption | exact hrw | omega) ?_ ?_ ?_
            · skip
              intro qf; exact absurd (show _ from ⟨hs1, ⟨1, by decide, by decide, hsh⟩, by omega, by omega, by omega⟩) qf
            · skip
              intro qf1 qf2
              refine pw_if_lt r_5_takeThree_101 (fun h101 => ?_) (fun h101 => absurd h101 (by decide))
              refine pw_const r_5_takeThree_108 ?_
              refine pw_zret r_5_takeThree_109 rfl (Or.inl rfl) (Nat.le_refl _) ⟨rfl, ?_⟩
              first | (exfalso; omega) | exact h1 (fun z => by unfold goodC at z; omega) | exact h2 hgd (by omega) | exact h3 hgd (by omega) _ _ n lt (by omega) (by omega) hn hl
            · skip
              intro qf1 qf2 n lt hn hl
              refine pw_eqG (G' := sF (sA (sA (sA (sA (uA G 49 ((gF G 5 (0) 0)) (lt)) 50 (0) ((gF G 5 (0) 0)) (n)) 47 (0) ((gF G 5 (0) 0)) (s)) 51 (0) ((gF G 5 (0) 0)) ((-1))) 52 (0) ((gF G 5 (0) 0)) ((-1))) 5 (0) 0 ((gF G 5 (0) 0) + 1)) (by first | rfl | simp (disch := decide) [gF_sF, gF_sA, gF_uA, gF_sD, gA_sF, gA_sA, gA_uA, gA_sD, gD_sF, gD_sA, gD_uA, gD_sD]) ?_
              refine pw_if_lt r_5_takeThree_101 (fun h101 => ?_) (fun h101 => ?_)
              · skip
                refine pw_const r_5_takeThree_108 ?_
                refine pw_zret r_5_takeThree_109 rfl (Or.inl rfl) (Nat.le_refl _) ⟨rfl, ?_⟩
                first | (exfalso; omega) | exact h1 (fun z => by unfold goodC at z; omega) | exact h2 hgd (by omega) | exact h3 hgd (by omega) _ _ n lt (by omega) (by omega) hn hl
              · skip
                refine pw_const r_5_takeThree_104 ?_
                refine pw_goto r_5_takeThree_105 ?_
                refine pw_zret r_5_takeThree_109 rfl (Or.inr rfl) (Nat.le_refl _) ⟨rfl, ?_⟩
                first | (exfalso; omega) | exact h1 (fun z => by unfold goodC at z; omega) | exact h2 hgd (by omega) | exact h3 hgd (by omega) _ _ n lt (by omega) (by omega) hn hl
      · skip
        refine pw_const r_5_takeThree_62 ?_
        refine pw_zret r_5_takeThree_63 rfl (Or.inl rfl) (Nat.le_refl _) ⟨rfl, ?_⟩
        first | (exfalso; omega) | exact h1 (fun z => by unfold goodC at z; omega) | exact h2 hgd (by omega) | exact h3 hgd (by omega) _ _ n lt (by omega) (by omega) hn hl
set_option maxRecDepth 10000 in
theorem sp_X5_takeList {l : Launch} {w : Wo} {d : Nat} {G : PH} {P : Option PV → PH → Prop} {s t i n : Int} (hrw : 0 ≤ (gF G 5 0 0) ∧ (gF G 5 0 0) ≤ 100) (hts : ∀ t, 0 ≤ t → t < 4 → (-1 ≤ (gA G 58 0 (t)) ∧ (gA G 58 0 (t)) ≤ 1) ∧ 0 ≤ (gA G 59 0 (t)) ∧ (gA G 59 0 (t)) ≤ 60) (h1 : ¬ ((0 ≤ s ∧ s ≤ 1) ∧ (0 ≤ t ∧ t ≤ 3) ∧ 1 ≤ n ∧ n ≤ 20) → P (some (vI (-1))) G) (h2 : ((0 ≤ s ∧ s ≤ 1) ∧ (0 ≤ t ∧ t ≤ 3) ∧ 1 ≤ n ∧ n ≤ 20) → ((gA G 58 0 (t)) ≠ 1) → P (some (vI (-5))) G) (h3 : ((0 ≤ s ∧ s ≤ 1) ∧ (0 ≤ t ∧ t ≤ 3) ∧ 1 ≤ n ∧ n ≤ 20) → ((gA G 58 0 (t)) = 1) → ∀ k L ln sd ag un, (0 ≤ k ∧ k ≤ n) → (∀ j, 0 ≤ j → j < k → goC G t i j) → (k = n ∨ ¬ goC G t i k) → ListC G t i s k L ln sd ag un → P (some (vI k)) (sF (uA (uA (uA (uA (uK G 49 (L)) 50 0 (ln)) 47 0 (sd)) 51 0 (ag)) 52 0 (un)) 5 0 0 ((gF G 5 0 0) + k))) : PW l w M_X5_takeList (d + 3) 0 [some (vR 5 (0)), some (vI (s)), some (vI (t)), some (vI (i)), some (vI (n)), none, none] [] G P := by
  refine pw_iload r_5_takeList_0 rfl ?_
  refine pw_callS (av := [vI (s)]) (st := []) (ls0 := [some (vI (s))]) r_5_takeList_1 rfl rfl rfl (Nat.le_refl _) ?_
  refine sp_X11_isSide  ?_
  refine pw_if_eqB r_5_takeList_4 (fun h04 => ?_) (fun h04 => ?_)
  · skip
    refine pw_const r_5_takeList_25 ?_
    refine pw_iret r_5_takeList_26 rfl (Nat.le_refl _) ⟨rfl, ?_⟩
    first | exact h1 (by omega) | exact h2 (by omega) (by omega) | exact h3 (by omega) (by omega) k L ln sd ag un hk hg (Or.inl (by omega)) hL | exact h3 (by omega) (by omega) k L ln sd ag un hk hg (Or.inr (fun z => by unfold goC at z; omega)) hL | exact h3 (by omega) (by omega) k L ln sd ag un hk hg (Or.inr (fun z => qf (by rw [hq]; exact z.2.2.2))) hL | exact h3 (by omega) (by omega) k L ln sd ag un hk hg (Or.inr (fun z => by have qf3 : 100 ≤ (gF G 5 0 0) + k := qf2; have := z.2.2.1; omega)) hL | (have hh := h3 (by omega) (by omega) 0 (fun r i => gA G 49 r i) (fun i => (gA G 50 0 (i))) (fun i => (gA G 47 0 (i))) (fun i => (gA G 51 0 (i))) (fun i => (gA G 52 0 (i))) (by omega) (fun j a b => by omega) (Or.inr (fun z => by have := z.1; omega)) ⟨fun r a => ⟨rfl, rfl, rfl, rfl, rfl⟩, fun j a b => by omega⟩; rw [uK_self, uA_self, uA_self, uA_self, uA_self, show (gF G 5 0 0) + 0 = (gF G 5 0 0) by omega, sF_self] at hh; exact hh)
  · skip
    refine pw_iload r_5_takeList_7 rfl ?_
    refine pw_callS (av := [vI (t)]) (st := []) (ls0 := [some (vI (t))]) r_5_takeList_8 rfl rfl rfl (Nat.le_refl _) ?_
    refine sp_X5_isTable  ?_
    refine pw_if_eqB r_5_takeList_11 (fun h11 => ?_) (fun h11 => ?_)
    · skip
      refine pw_const r_5_takeList_25 ?_
      refine pw_iret r_5_takeList_26 rfl (Nat.le_refl _) ⟨rfl, ?_⟩
      first | exact h1 (by omega) | exact h2 (by omega) (by omega) | exact h3 (by omega) (by omega) k L ln sd ag un hk hg (Or.inl (by omega)) hL | exact h3 (by omega) (by omega) k L ln sd ag un hk hg (Or.inr (fun z => by unfold goC at z; omega)) hL | exact h3 (by omega) (by omega) k L ln sd ag un hk hg (Or.inr (fun z => qf (by rw [hq]; exact z.2.2.2))) hL | exact h3 (by omega) (by omega) k L ln sd ag un hk hg (Or.inr (fun z => by have qf3 : 100 ≤ (gF G 5 0 0) + k := qf2; have := z.2.2.1; omega)) hL | (have hh := h3 (by omega) (by omega) 0 (fun r i => gA G 49 r i) (fun i => (gA G 50 0 (i))) (fun i => (gA G 47 0 (i))) (fun i => (gA G 51 0 (i))) (fun i => (gA G 52 0 (i))) (by omega) (fun j a b => by omega) (Or.inr (fun z => by have := z.1; omega)) ⟨fun r a => ⟨rfl, rfl, rfl, rfl, rfl⟩, fun j a b => by omega⟩; rw [uK_self, uA_self, uA_self, uA_self, uA_self, show (gF G 5 0 0) + 0 = (gF G 5 0 0) by omega, sF_self] at hh; exact hh)
    · skip
      refine pw_iload r_5_takeList_14 rfl ?_
      refine pw_const r_5_takeList_16 ?_
      refine pw_const r_5_takeList_17 ?_
      refine pw_callS (av := [vI (n), vI (1), vI (20)]) (st := []) (ls0 := [some (vI (n)), some (vI (1)), some (vI (20))]) r_5_takeList_19 rfl rfl rfl (Nat.le_refl _) ?_
      refine sp_X11_within  ?_
      refine pw_if_neB r_5_takeList_22 (fun h22 => ?_) (fun h22 => ?_)
      · skip
        have ht := hts t (by omega) (by omega)
        refine pw_aload r_5_takeList_27 rfl ?_
        refine pw_getR r_5_takeList_28 fs_5_10 (by decide) ?_
        refine pw_iload r_5_takeList_31 rfl ?_
        refine pw_iald r_5_takeList_32 sh58 (by omega) (by omega) ?_
        refine pw_const r_5_takeList_33 ?_
        refine pw_icmp_eq r_5_takeList_34 (fun h34 => ?_) (fun h34 => ?_)
        · skip
          refine pw_iload r_5_takeList_40 rfl ?_
          refine pw_if_ge r_5_takeList_41 (fun h41 => ?_) (fun h41 => ?_)
          · skip
            refine pw_const r_5_takeList_46 ?_
            refine pw_istore (ls' := [some (vR 5 (0)), some (vI (s)), some (vI (t)), some (vI (i)), some (vI (n)), some (vI (0)), none]) r_5_takeList_47 rfl rfl ?_
            refine pw_iload r_5_takeList_49 rfl ?_
            refine pw_istore (ls' := [some (vR 5 (0)), some (vI (s)), some (vI (t)), some (vI (i)), some (vI (n)), some (vI (0)), some (vI (i))]) r_5_takeList_50 rfl rfl ?_
            have L52 : ∀ (nF : Nat) (k q : Int) (L : Int → Int → Int) (ln sd ag un : Int → Int), (hk : 0 ≤ k ∧ k ≤ n) → (hq : q = i + 3 * k) → (hz : (gF G 5 0 0) + k ≤ 100) → (hg : ∀ j, 0 ≤ j → j < k → goC G t i j) → (hL : ListC G t i s k L ln sd ag un) → (n - k).toNat < nF → PW l w M_X5_takeList (d + 3) 52 [some (vR 5 (0)), some (vI (s)), some (vI (t)), some (vI (i)), some (vI (n)), some (vI (k)), some (vI (q))] [] (sF (uA (uA (uA (uA (uK G 49 (L)) 50 (0) (ln)) 47 (0) (sd)) 51 (0) (ag)) 52 (0) (un)) 5 (0) 0 ((gF G 5 0 0) + k)) P := by
              intro nF
              induction nF with
              | zero => intro _ _ _ _ _ _ _ _ _ _ _ _ hM; exact absurd hM (Nat.not_lt_zero _)
              | succ nF ih52 =>
                intro k q L ln sd ag un hk hq hz hg hL hM52
                refine pw_iload r_5_takeList_52 rfl ?_
                refine pw_iload r_5_takeList_54 rfl ?_
                refine pw_icmp_ge r_5_takeList_56 (fun h56 => ?_) (fun h56 => ?_)
                · skip
                  refine pw_iload r_5_takeList_100 rfl ?_
                  refine pw_iret r_5_takeList_102 rfl (Nat.le_refl _) ⟨rfl, ?_⟩
                  first | exact h1 (by omega) | exact h2 (by omega) (by omega) | exact h3 (by omega) (by omega) k L ln sd ag un hk hg (Or.inl (by omega)) hL | exact h3 (by omega) (by omega) k L ln sd ag un hk hg (Or.inr (fun z => by unfold goC at z; omega)) hL | exact h3 (by omega) (by omega) k L ln sd ag un hk hg (Or.inr (fun z => qf (by rw [hq]; exact z.2.2.2))) hL | exact h3 (by omega) (by omega) k L ln sd ag un hk hg (Or.inr (fun z => by have qf3 : 100 ≤ (gF G 5 0 0) + k := qf2; have := z.2.2.1; omega)) hL | (have hh := h3 (by omega) (by omega) 0 (fun r i => gA G 49 r i) (fun i => (gA G 50 0 (i))) (fun i => (gA G 47 0 (i))) (fun i => (gA G 51 0 (i))) (fun i => (gA G 52 0 (i))) (by omega) (fun j a b => by omega) (Or.inr (fun z => by have := z.1; omega)) ⟨fun r a => ⟨rfl, rfl, rfl, rfl, rfl⟩, fun j a b => by omega⟩; rw [uK_self, uA_self, uA_self, uA_self, uA_self, show (gF G 5 0 0) + 0 = (gF G 5 0 0) by omega, sF_self] at hh; exact hh)
                · skip
                  refine pw_iload r_5_takeList_59 rfl ?_
                  refine pw_aload r_5_takeList_61 rfl ?_
                  refine pw_getR r_5_takeList_62 fs_5_11 (by decide) ?_
                  refine pw_iload r_5_takeList_65 rfl ?_
                  refine pw_ialdv (v := gA G 59 (0) (t)) r_5_takeList_66 sh59 (by omega) (by omega) (by first | rfl | simp [gF_sF, gF_sA, gF_uA, gF_sD, gA_sF, gA_sA, gA_uA, gA_sD, gD_sF, gD_sA, gD_uA, gD_sD]) ?_
                  refine pw_const r_5_takeList_67 ?_
                  refine pw_isub r_5_takeList_68 (by omega) ?_
                  refine pw_icmp_gt r_5_takeList_69 (fun h69 => ?_) (fun h69 => ?_)
                  · skip
                    refine pw_iload r_5_takeList_100 rfl ?_
                    refine pw_iret r_5_takeList_102 rfl (Nat.le_refl _) ⟨rfl, ?_⟩
                    first | exact h1 (by omega) | exact h2 (by omega) (by omega) | exact h3 (by omega) (by omega) k L ln sd ag un hk hg (Or.inl (by omega)) hL | exact h3 (by omega) (by omega) k L ln sd ag un hk hg (Or.inr (fun z => by unfold goC at z; omega)) hL | exact h3 (by omega) (by omega) k L ln sd ag un hk hg (Or.inr (fun z => qf (by rw [hq]; exact z.2.2.2))) hL | exact h3 (by omega) (by omega) k L ln sd ag un hk hg (Or.inr (fun z => by have qf3 : 100 ≤ (gF G 5 0 0) + k := qf2; have := z.2.2.1; omega)) hL | (have hh := h3 (by omega) (by omega) 0 (fun r i => gA G 49 r i) (fun i => (gA G 50 0 (i))) (fun i => (gA G 47 0 (i))) (fun i => (gA G 51 0 (i))) (fun i => (gA G 52 0 (i))) (by omega) (fun j a b => by omega) (Or.inr (fun z => by have := z.1; omega)) ⟨fun r a => ⟨rfl, rfl, rfl, rfl, rfl⟩, fun j a b => by omega⟩; rw [uK_self, uA_self, uA_self, uA_self, uA_self, show (gF G 5 0 0) + 0 = (gF G 5 0 0) by omega, sF_self] at hh; exact hh)
                  · skip
                    refine pw_aload r_5_takeList_72 rfl ?_
                    refine pw_iload r_5_takeList_73 rfl ?_
                    refine pw_aload r_5_takeList_74 rfl ?_
                    refine pw_getR r_5_takeList_75 fs_5_9 (by decide) ?_
                    refine pw_iload r_5_takeList_78 rfl ?_
                    refine pw_aaldS r_5_takeList_79 sh56 (by decide) (by decide) aS56 rw57 (by omega) (by omega) ?_
                    refine pw_iload r_5_takeList_80 rfl ?_
                    refine pw_callV (av := [vI (s), vR 57 (t), vI (q)]) (st := []) (ls0 := [some (vR 5 (0)), some (vI (s)), some (vR 57 (t)), some (vI (q)), none, none, none]) r_5_takeList_82 rfl rfl rfl (Nat.le_refl _) ?_
                    refine sp_X5_takeThree (⟨show 0 ≤ (gF G 5 0 0) + k by omega, hz⟩) (by omega) (by omega) (by omega) ?_ ?_ ?_
                    · skip
                      intro qf
                      refine pw_if_ne r_5_takeList_85 (fun h85 => absurd h85 (by decide)) (fun h85 => ?_)
                      refine pw_iload r_5_takeList_88 rfl ?_
                      refine pw_iret r_5_takeList_90 rfl (Nat.le_refl _) ⟨rfl, ?_⟩
                      first | exact h1 (by omega) | exact h2 (by omega) (by omega) | exact h3 (by omega) (by omega) k L ln sd ag un hk hg (Or.inl (by omega)) hL | exact h3 (by omega) (by omega) k L ln sd ag un hk hg (Or.inr (fun z => by unfold goC at z; omega)) hL | exact h3 (by omega) (by omega) k L ln sd ag un hk hg (Or.inr (fun z => qf (by rw [hq]; exact z.2.2.2))) hL | exact h3 (by omega) (by omega) k L ln sd ag un hk hg (Or.inr (fun z => by have qf3 : 100 ≤ (gF G 5 0 0) + k := qf2; have := z.2.2.1; omega)) hL | (have hh := h3 (by omega) (by omega) 0 (fun r i => gA G 49 r i) (fun i => (gA G 50 0 (i))) (fun i => (gA G 47 0 (i))) (fun i => (gA G 51 0 (i))) (fun i => (gA G 52 0 (i))) (by omega) (fun j a b => by omega) (Or.inr (fun z => by have := z.1; omega)) ⟨fun r a => ⟨rfl, rfl, rfl, rfl, rfl⟩, fun j a b => by omega⟩; rw [uK_self, uA_self, uA_self, uA_self, uA_self, show (gF G 5 0 0) + 0 = (gF G 5 0 0) by omega, sF_self] at hh; exact hh)
                    · skip
                      intro qf1 qf2
                      refine pw_if_ne r_5_takeList_85 (fun h85 => absurd h85 (by decide)) (fun h85 => ?_)
                      refine pw_iload r_5_takeList_88 rfl ?_
                      refine pw_iret r_5_takeList_90 rfl (Nat.le_refl _) ⟨rfl, ?_⟩
                      first | exact h1 (by omega) | exact h2 (by omega) (by omega) | exact h3 (by omega) (by omega) k L ln sd ag un hk hg (Or.inl (by omega)) hL | exact h3 (by omega) (by omega) k L ln sd ag un hk hg (Or.inr (fun z => by unfold goC at z; omega)) hL | exact h3 (by omega) (by omega) k L ln sd ag un hk hg (Or.inr (fun z => qf (by rw [hq]; exact z.2.2.2))) hL | exact h3 (by omega) (by omega) k L ln sd ag un hk hg (Or.inr (fun z => by have qf3 : 100 ≤ (gF G 5 0 0) + k := qf2; have := z.2.2.1; omega)) hL | (have hh := h3 (by omega) (by omega) 0 (fun r i => gA G 49 r i) (fun i => (gA G 50 0 (i))) (fun i => (gA G 47 0 (i))) (fun i => (gA G 51 0 (i))) (fun i => (gA G 52 0 (i))) (by omega) (fun j a b => by omega) (Or.inr (fun z => by have := z.1; omega)) ⟨fun r a => ⟨rfl, rfl, rfl, rfl, rfl⟩, fun j a b => by omega⟩; rw [uK_self, uA_self, uA_self, uA_self, uA_self, show (gF G 5 0 0) + 0 = (gF G 5 0 0) by omega, sF_self] at hh; exact hh)
                    · skip
                      intro qf1 qf2 a u n1 lt ha hu hn hl
                      refine pw_eqG (G' := sF (sA (sA (sA (sA (uA (sF (uA (uA (uA (uA (uK G 49 (L)) 50 (0) (ln)) 47 (0) (sd)) 51 (0) (ag)) 52 (0) (un)) 5 (0) 0 ((gF G 5 0 0) + k)) 49 (((gF G 5 0 0) + k)) (lt)) 50 (0) (((gF G 5 0 0) + k)) (n1)) 47 (0) (((gF G 5 0 0) + k)) (s)) 51 (0) (((gF G 5 0 0) + k)) (a)) 52 (0) (((gF G 5 0 0) + k)) (u)) 5 (0) 0 (((gF G 5 0 0) + k) + 1)) (by first | rfl | simp (disch := decide) [gF_sF, gF_sA, gF_uA, gF_sD, gA_sF, gA_sA, gA_uA, gA_sD, gD_sF, gD_sA, gD_uA, gD_sD]) ?_
                      refine pw_if_ne r_5_takeList_85 (fun h85 => ?_) (fun h85 => absurd h85 (by decide))
                      refine pw_iinc (b := 0) (ls' := [some (vR 5 (0)), some (vI (s)), some (vI (t)), some (vI (i)), some (vI (n)), some (vI ((k + 1))), some (vI (q))]) r_5_takeList_91 rfl rfl (by omega) rfl ?_
                      refine pw_iinc (b := 0) (ls' := [some (vR 5 (0)), some (vI (s)), some (vI (t)), some (vI (i)), some (vI (n)), some (vI ((k + 1))), some (vI ((q + 3)))]) r_5_takeList_94 rfl rfl (by omega) rfl ?_
                      refine pw_goto r_5_takeList_97 ?_
                      refine pw_eqG (G' := sF (uA (uA (uA (uA (uK G 49 (upR L ((gF G 5 0 0) + k) lt)) 50 (0) (upA ln ((gF G 5 0 0) + k) n1)) 47 (0) (upA sd ((gF G 5 0 0) + k) s)) 51 (0) (upA ag ((gF G 5 0 0) + k) a)) 52 (0) (upA un ((gF G 5 0 0) + k) u)) 5 (0) 0 ((gF G 5 0 0) + (k + 1))) (by rw [show (gF G 5 0 0) + (k + 1) = (gF G 5 0 0) + k + 1 by omega]; exact tpl_step) ?_
                      exact ih52 ((k + 1)) ((q + 3)) (upR L ((gF G 5 0 0) + k) lt) (upA ln ((gF G 5 0 0) + k) n1) (upA sd ((gF G 5 0 0) + k) s) (upA ag ((gF G 5 0 0) + k) a) (upA un ((gF G 5 0 0) + k) u) (by omega) (by omega) (by have : (gF G 5 0 0) + k < 100 := qf2; omega) (all_s hg ⟨by omega, by omega, qf2, by rw [← hq]; exact qf1⟩) (ListC_step hk.1 hL (by rw [← hq]; exact hn) (by rw [← hq]; exact hl) (by rw [← hq]; exact ha) (by rw [← hq]; exact hu)) (by omega)
            refine pw_eqG (G' := sF (uA (uA (uA (uA (uK G 49 (fun r i => gA G 49 r i)) 50 (0) (fun i => (gA G 50 0 (i)))) 47 (0) (fun i => (gA G 47 0 (i)))) 51 (0) (fun i => (gA G 51 0 (i)))) 52 (0) (fun i => (gA G 52 0 (i)))) 5 (0) 0 ((gF G 5 0 0) + 0)) (by rw [uK_self, uA_self, uA_self, uA_self, uA_self, show (gF G 5 0 0) + 0 = (gF G 5 0 0) by omega, sF_self]) ?_
            exact L52 _ (0) (i) (fun r i => gA G 49 r i) (fun i => (gA G 50 0 (i))) (fun i => (gA G 47 0 (i))) (fun i => (gA G 51 0 (i))) (fun i => (gA G 52 0 (i))) (by omega) (by omega) (by omega) (fun j a b => by omega) (⟨fun r a => ⟨rfl, rfl, rfl, rfl, rfl⟩, fun j a b => by omega⟩) (Nat.lt_succ_self _)
          · skip
            refine pw_const r_5_takeList_44 ?_
            refine pw_iret r_5_takeList_45 rfl (Nat.le_refl _) ⟨rfl, ?_⟩
            first | exact h1 (by omega) | exact h2 (by omega) (by omega) | exact h3 (by omega) (by omega) k L ln sd ag un hk hg (Or.inl (by omega)) hL | exact h3 (by omega) (by omega) k L ln sd ag un hk hg (Or.inr (fun z => by unfold goC at z; omega)) hL | exact h3 (by omega) (by omega) k L ln sd ag un hk hg (Or.inr (fun z => qf (by rw [hq]; exact z.2.2.2))) hL | exact h3 (by omega) (by omega) k L ln sd ag un hk hg (Or.inr (fun z => by have qf3 : 100 ≤ (gF G 5 0 0) + k := qf2; have := z.2.2.1; omega)) hL | (have hh := h3 (by omega) (by omega) 0 (fun r i => gA G 49 r i) (fun i => (gA G 50 0 (i))) (fun i => (gA G 47 0 (i))) (fun i => (gA G 51 0 (i))) (fun i => (gA G 52 0 (i))) (by omega) (fun j a b => by omega) (Or.inr (fun z => by have := z.1; omega)) ⟨fun r a => ⟨rfl, rfl, rfl, rfl, rfl⟩, fun j a b => by omega⟩; rw [uK_self, uA_self, uA_self, uA_self, uA_self, show (gF G 5 0 0) + 0 = (gF G 5 0 0) by omega, sF_self] at hh; exact hh)
        · skip
          refine pw_const r_5_takeList_37 ?_
          refine pw_iret r_5_takeList_39 rfl (Nat.le_refl _) ⟨rfl, ?_⟩
          first | exact h1 (by omega) | exact h2 (by omega) (by omega) | exact h3 (by omega) (by omega) k L ln sd ag un hk hg (Or.inl (by omega)) hL | exact h3 (by omega) (by omega) k L ln sd ag un hk hg (Or.inr (fun z => by unfold goC at z; omega)) hL | exact h3 (by omega) (by omega) k L ln sd ag un hk hg (Or.inr (fun z => qf (by rw [hq]; exact z.2.2.2))) hL | exact h3 (by omega) (by omega) k L ln sd ag un hk hg (Or.inr (fun z => by have qf3 : 100 ≤ (gF G 5 0 0) + k := qf2; have := z.2.2.1; omega)) hL | (have hh := h3 (by omega) (by omega) 0 (fun r i => gA G 49 r i) (fun i => (gA G 50 0 (i))) (fun i => (gA G 47 0 (i))) (fun i => (gA G 51 0 (i))) (fun i => (gA G 52 0 (i))) (by omega) (fun j a b => by omega) (Or.inr (fun z => by have := z.1; omega)) ⟨fun r a => ⟨rfl, rfl, rfl, rfl, rfl⟩, fun j a b => by omega⟩; rw [uK_self, uA_self, uA_self, uA_self, uA_self, show (gF G 5 0 0) + 0 = (gF G 5 0 0) by omega, sF_self] at hh; exact hh)
      · skip
        refine pw_const r_5_takeList_25 ?_
        refine pw_iret r_5_takeList_26 rfl (Nat.le_refl _) ⟨rfl, ?_⟩
        first | exact h1 (by omega) | exact h2 (by omega) (by omega) | exact h3 (by omega) (by omega) k L ln sd ag un hk hg (Or.inl (by omega)) hL | exact h3 (by omega) (by omega) k L ln sd ag un hk hg (Or.inr (fun z => by unfold goC at z; omega)) hL | exact h3 (by omega) (by omega) k L ln sd ag un hk hg (Or.inr (fun z => qf (by rw [hq]; exact z.2.2.2))) hL | exact h3 (by omega) (by omega) k L ln sd ag un hk hg (Or.inr (fun z => by have qf3 : 100 ≤ (gF G 5 0 0) + k := qf2; have := z.2.2.1; omega)) hL | (have hh := h3 (by omega) (by omega) 0 (fun r i => gA G 49 r i) (fun i => (gA G 50 0 (i))) (fun i => (gA G 47 0 (i))) (fun i => (gA G 51 0 (i))) (fun i => (gA G 52 0 (i))) (by omega) (fun j a b => by omega) (Or.inr (fun z => by have := z.1; omega)) ⟨fun r a => ⟨rfl, rfl, rfl, rfl, rfl⟩, fun j a b => by omega⟩; rw [uK_self, uA_self, uA_self, uA_self, uA_self, show (gF G 5 0 0) + 0 = (gF G 5 0 0) by omega, sF_self] at hh; exact hh)
set_option maxRecDepth 10000 in
theorem sp_X12_list {l : Launch} {w : Wo} {d : Nat} {G : PH} {P : Option PV → PH → Prop} {s t i n : Int} (hrw : 0 ≤ (gF G 12 0 55) ∧ (gF G 12 0 55) ≤ 100) (hts : ∀ t, 0 ≤ t → t < 4 → (-1 ≤ (gA G 270 0 (t)) ∧ (gA G 270 0 (t)) ≤ 1) ∧ 0 ≤ (gA G 271 0 (t)) ∧ (gA G 271 0 (t)) ≤ 60) (h1 : ¬ ((0 ≤ s ∧ s ≤ 1) ∧ (0 ≤ t ∧ t ≤ 3) ∧ 1 ≤ n ∧ n ≤ 20) → P (some (vI (-1))) G) (h2 : ((0 ≤ s ∧ s ≤ 1) ∧ (0 ≤ t ∧ t ≤ 3) ∧ 1 ≤ n ∧ n ≤ 20) → ((gA G 270 0 (t)) ≠ 1) → P (some (vI (-5))) G) (h3 : ((0 ≤ s ∧ s ≤ 1) ∧ (0 ≤ t ∧ t ≤ 3) ∧ 1 ≤ n ∧ n ≤ 20) → ((gA G 270 0 (t)) = 1) → ∀ k sd wd ag un, (0 ≤ k ∧ k ≤ n) → (∀ j, 0 ≤ j → j < k → goM G t i j) → (k = n ∨ ¬ goM G t i k) → ListM G t i s k sd wd ag un → P (some (vI k)) (sF (uA (uA (uA (uA G 236 0 (sd)) 237 0 (wd)) 238 0 (ag)) 239 0 (un)) 12 0 55 ((gF G 12 0 55) + k))) : PW l w M_X12_list (d + 2) 0 [some (vR 12 (0)), some (vI (s)), some (vI (t)), some (vI (i)), some (vI (n)), none, none, none, none, none, none, none, none] [] G P := by
  refine pw_rng (i := 3) rfl (fun hj => ?_)
  have hj : -2147483648 ≤ i ∧ i < 2147483648 := hj
  refine pw_iload r_12_list_0 rfl ?_
  refine pw_callS (av := [vI (s)]) (st := []) (ls0 := [some (vI (s))]) r_12_list_1 rfl rfl rfl (Nat.le_refl _) ?_
  refine sp_X12_isSide  ?_
  refine pw_if_eqB r_12_list_4 (fun h04 => ?_) (fun h04 => ?_)
  · skip
    refine pw_const r_12_list_25 ?_
    refine pw_iret r_12_list_26 rfl (Nat.le_refl _) ⟨rfl, ?_⟩
    first | exact h1 (by omega) | exact h2 (by omega) (by omega) | exact pe (h3 (by omega) (by omega) k sd wd ag un hk hg (Or.inl (by omega)) hL) (by omega) | exact h3 (by omega) (by omega) k sd wd ag un hk hg (Or.inr (fun z => by unfold goM goodM at z; omega)) hL | exact h3 (by omega) (by omega) k sd wd ag un hk hg (Or.inr (fun z => by unfold goM goodM at z; omega)) hL
  · skip
    refine pw_iload r_12_list_7 rfl ?_
    refine pw_callS (av := [vI (t)]) (st := []) (ls0 := [some (vI (t))]) r_12_list_8 rfl rfl rfl (Nat.le_refl _) ?_
    refine sp_X12_isTable  ?_
    refine pw_if_eqB r_12_list_11 (fun h11 => ?_) (fun h11 => ?_)
    · skip
      refine pw_const r_12_list_25 ?_
      refine pw_iret r_12_list_26 rfl (Nat.le_refl _) ⟨rfl, ?_⟩
      first | exact h1 (by omega) | exact h2 (by omega) (by omega) | exact pe (h3 (by omega) (by omega) k sd wd ag un hk hg (Or.inl (by omega)) hL) (by omega) | exact h3 (by omega) (by omega) k sd wd ag un hk hg (Or.inr (fun z => by unfold goM goodM at z; omega)) hL | exact h3 (by omega) (by omega) k sd wd ag un hk hg (Or.inr (fun z => by unfold goM goodM at z; omega)) hL
    · skip
      refine pw_iload r_12_list_14 rfl ?_
      refine pw_const r_12_list_16 ?_
      refine pw_const r_12_list_17 ?_
      refine pw_callS (av := [vI (n), vI (1), vI (20)]) (st := []) (ls0 := [some (vI (n)), some (vI (1)), some (vI (20))]) r_12_list_19 rfl rfl rfl (Nat.le_refl _) ?_
      refine sp_X12_within  ?_
      refine pw_if_neB r_12_list_22 (fun h22 => ?_) (fun h22 => ?_)
      · skip
        have ht := hts t (by omega) (by omega)
        refine pw_aload r_12_list_27 rfl ?_
        refine pw_getR r_12_list_28 fs_12_106 (by decide) ?_
        refine pw_iload r_12_list_31 rfl ?_
        refine pw_iald r_12_list_32 sh270 (by omega) (by omega) ?_
        refine pw_const r_12_list_33 ?_
        refine pw_icmp_eq r_12_list_34 (fun h34 => ?_) (fun h34 => ?_)
        · skip
          refine pw_const r_12_list_40 ?_
          refine pw_istore (ls' := [some (vR 12 (0)), some (vI (s)), some (vI (t)), some (vI (i)), some (vI (n)), some (vI (0)), none, none, none, none, none, none, none]) r_12_list_41 rfl rfl ?_
          have L43 : ∀ (nF : Nat) (k : Int) (sd wd ag un : Int → Int), (hk : 0 ≤ k ∧ k ≤ n) → (hi0 : k = 0 ∨ 0 ≤ i) → (hz : (gF G 12 0 55) + k ≤ 100) → (hg : ∀ j, 0 ≤ j → j < k → goM G t i j) → (hL : ListM G t i s k sd wd ag un) → (n - k).toNat < nF → PW l w M_X12_list (d + 2) 43 [some (vR 12 (0)), some (vI (s)), some (vI (t)), some (vI (i)), some (vI (n)), some (vI (k)), none, none, none, none, none, none, none] [] (sF (uA (uA (uA (uA G 236 (0) (sd)) 237 (0) (wd)) 238 (0) (ag)) 239 (0) (un)) 12 (0) 55 ((gF G 12 0 55) + k)) P := by
            intro nF
            induction nF with
            | zero => intro _ _ _ _ _ _ _ _ _ _ hM; exact absurd hM (Nat.not_lt_zero _)
            | succ nF ih43 =>
              intro k sd wd ag un hk hi0 hz hg hL hM43
              refine pw_iload r_12_list_43 rfl ?_
              refine pw_iload r_12_list_45 rfl ?_
              refine pw_icmp_ge r_12_list_47 (fun h47 => ?_) (fun h47 => ?_)
              · skip
                refine pw_iload r_12_list_295 rfl ?_
                refine pw_iret r_12_list_297 rfl (Nat.le_refl _) ⟨rfl, ?_⟩
                first | exact h1 (by omega) | exact h2 (by omega) (by omega) | exact pe (h3 (by omega) (by omega) k sd wd ag un hk hg (Or.inl (by omega)) hL) (by omega) | exact h3 (by omega) (by omega) k sd wd ag un hk hg (Or.inr (fun z => by unfold goM goodM at z; omega)) hL | exact h3 (by omega) (by omega) k sd wd ag un hk hg (Or.inr (fun z => by unfold goM goodM at z; omega)) hL
              · skip
                refine pw_iload r_12_list_50 rfl ?_
                refine pw_i2l r_12_list_51 ?_
                refine pw_lconst r_12_list_52 ?_
                refine pw_iload r_12_list_55 rfl ?_
                refine pw_i2l r_12_list_57 ?_
                refine pw_lmul r_12_list_58 (by omega) ?_
                refine pw_ladd r_12_list_59 (by omega) ?_
                refine pw_lstore (ls' := [some (vR 12 (0)), some (vI (s)), some (vI (t)), some (vI (i)), some (vI (n)), some (vI (k)), some (vJ ((i + (3 * k)))), none, none, none, none, none, none]) r_12_list_60 rfl rfl ?_
                refine pw_lload r_12_list_62 rfl ?_
                refine pw_lconst r_12_list_64 ?_
                refine pw_lcmp r_12_list_65 ?_
                refine pw_if_lt r_12_list_66 (fun h66 => ?_) (fun h66 => ?_)
                · skip
                  have h66b := lcm_lt.mp h66
                  refine pw_iload r_12_list_95 rfl ?_
                  refine pw_iret r_12_list_97 rfl (Nat.le_refl _) ⟨rfl, ?_⟩
                  first | exact h1 (by omega) | exact h2 (by omega) (by omega) | exact pe (h3 (by omega) (by omega) k sd wd ag un hk hg (Or.inl (by omega)) hL) (by omega) | exact h3 (by omega) (by omega) k sd wd ag un hk hg (Or.inr (fun z => by unfold goM goodM at z; omega)) hL | exact h3 (by omega) (by omega) k sd wd ag un hk hg (Or.inr (fun z => by unfold goM goodM at z; omega)) hL
                · skip
                  have h66b : ¬ (i + 3 * k < 0) := fun z => by have := lcm_lt.mpr z; omega
                  have hi1 : 0 ≤ i := by omega
                  refine pw_lload r_12_list_69 rfl ?_
                  refine pw_lconst r_12_list_71 ?_
                  refine pw_ladd r_12_list_74 (by omega) ?_
                  refine pw_aload r_12_list_75 rfl ?_
                  refine pw_getR r_12_list_76 fs_12_107 (by decide) ?_
                  refine pw_iload r_12_list_79 rfl ?_
                  refine pw_ialdv (v := gA G 271 (0) (t)) r_12_list_80 sh271 (by omega) (by omega) (by first | rfl | simp [gF_sF, gF_sA, gF_uA, gF_sD, gA_sF, gA_sA, gA_uA, gA_sD, gD_sF, gD_sA, gD_uA, gD_sD]) ?_
                  refine pw_i2l r_12_list_81 ?_
                  refine pw_lcmp r_12_list_82 ?_
                  refine pw_if_gt r_12_list_83 (fun h83 => ?_) (fun h83 => ?_)
                  · skip
                    have h83b := lcm_gt.mp h83
                    refine pw_iload r_12_list_95 rfl ?_
                    refine pw_iret r_12_list_97 rfl (Nat.le_refl _) ⟨rfl, ?_⟩
                    first | exact h1 (by omega) | exact h2 (by omega) (by omega) | exact pe (h3 (by omega) (by omega) k sd wd ag un hk hg (Or.inl (by omega)) hL) (by omega) | exact h3 (by omega) (by omega) k sd wd ag un hk hg (Or.inr (fun z => by unfold goM goodM at z; omega)) hL | exact h3 (by omega) (by omega) k sd wd ag un hk hg (Or.inr (fun z => by unfold goM goodM at z; omega)) hL
                  · skip
                    have h83b : ¬ ((gA G 271 0 (t)) < i + 3 * k + 3) := fun e => by have := lcm_gt.mpr e; omega
                    refine pw_aload r_12_list_86 rfl ?_
                    refine pw_getIv (v := (gF G 12 0 55) + k) r_12_list_87 fs_12_55 (by decide) (by first | rfl | simp [gF_sF, gF_sA, gF_uA, gF_sD, gA_sF, gA_sA, gA_uA, gA_sD, gD_sF, gD_sA, gD_uA, gD_sD]) ?_
                    refine pw_const r_12_list_90 ?_
                    refine pw_icmp_ne r_12_list_92 (fun h92 => ?_) (fun h92 => ?_)
                    · skip
                      refine pw_const r_12_list_98 ?_
                      refine pw_iload r_12_list_100 rfl ?_
                      refine pw_imul r_12_list_101 (by omega) ?_
                      refine pw_lload r_12_list_102 rfl ?_
                      refine pw_l2i r_12_list_104 (by omega) ?_
                      refine pw_iadd r_12_list_105 (by omega) ?_
                      refine pw_istore (ls' := [some (vR 12 (0)), some (vI (s)), some (vI (t)), some (vI (i)), some (vI (n)), some (vI (k)), some (vJ ((i + (3 * k)))), none, some (vI (((60 * t) + (i + (3 * k))))), none, none, none, none]) r_12_list_106 rfl rfl ?_
                      have L241 : ∀ (a u z : Int), (ha : (((gA G 272 0 (60 * t + (i + 3 * k))) = (gF G 12 0 57) ∧ a = -1) ∨ ((gA G 272 0 (60 * t + (i + 3 * k))) ≠ (gF G 12 0 57) ∧ a = (gA G 272 0 (60 * t + (i + 3 * k)))))) → (hu : (((gA G 272 0 (60 * t + (i + 3 * k) + 1)) = (gF G 12 0 57) ∧ u = -1) ∨ ((gA G 272 0 (60 * t + (i + 3 * k) + 1)) ≠ (gF G 12 0 57) ∧ u = (gA G 272 0 (60 * t + (i + 3 * k) + 1))))) → (hgg : (z = 1 ∧ (((gA G 272 0 (60 * t + (i + 3 * k))) = (gF G 12 0 57) ∨ (0 ≤ (gA G 272 0 (60 * t + (i + 3 * k))) ∧ (gA G 272 0 (60 * t + (i + 3 * k))) ≤ 99)) ∧ ((gA G 272 0 (60 * t + (i + 3 * k) + 1)) = (gF G 12 0 57) ∨ (0 ≤ (gA G 272 0 (60 * t + (i + 3 * k) + 1)) ∧ (gA G 272 0 (60 * t + (i + 3 * k) + 1)) ≤ 99)))) ∨ (z = 0 ∧ ¬ (((gA G 272 0 (60 * t + (i + 3 * k))) = (gF G 12 0 57) ∨ (0 ≤ (gA G 272 0 (60 * t + (i + 3 * k))) ∧ (gA G 272 0 (60 * t + (i + 3 * k))) ≤ 99)) ∧ ((gA G 272 0 (60 * t + (i + 3 * k) + 1)) = (gF G 12 0 57) ∨ (0 ≤ (gA G 272 0 (60 * t + (i + 3 * k) + 1)) ∧ (gA G 272 0 (60 * t + (i + 3 * k) + 1)) ≤ 99))))) → PW l w M_X12_list (d + 2) 241 [some (vR 12 (0)), some (vI (s)), some (vI (t)), some (vI (i)), some (vI (n)), some (vI (k)), some (vJ ((i + (3 * k)))), none, some (vI (((60 * t) + (i + (3 * k))))), some (vI (a)), some (vI (u)), none, none] [vI (z)] (sF (uA (uA (uA (uA G 236 (0) (sd)) 237 (0) (wd)) 238 (0) (ag)) 239 (0) (un)) 12 (0) 55 ((gF G 12 0 55) + k)) P := by
                        intro a u z ha hu hgg
                        refine pw_istore (ls' := [some (vR 12 (0)), some (vI (s)), some (vI (t)), some (vI (i)), some (vI (n)), some (vI (k)), some (vJ ((i + (3 * k)))), none, some (vI (((60 * t) + (i + (3 * k))))), some (vI (a)), some (vI (u)), some (vI (z)), none]) r_12_list_241 rfl rfl ?_
                        refine pw_iload r_12_list_243 rfl ?_
                        refine pw_if_eq r_12_list_245 (fun h245 => ?_) (fun h245 => ?_)
                        · skip
                          refine pw_iload r_12_list_266 rfl ?_
                          refine pw_iret r_12_list_268 rfl (Nat.le_refl _) ⟨rfl, ?_⟩
                          first | exact h1 (by omega) | exact h2 (by omega) (by omega) | exact pe (h3 (by omega) (by omega) k sd wd ag un hk hg (Or.inl (by omega)) hL) (by omega) | exact h3 (by omega) (by omega) k sd wd ag un hk hg (Or.inr (fun z => by unfold goM goodM at z; omega)) hL | exact h3 (by omega) (by omega) k sd wd ag un hk hg (Or.inr (fun z => by unfold goM goodM at z; omega)) hL
                        · skip
                          refine pw_aload r_12_list_248 rfl ?_
                          refine pw_getR r_12_list_249 fs_12_108 (by decide) ?_
                          refine pw_iload r_12_list_252 rfl ?_
                          refine pw_const r_12_list_254 ?_
                          refine pw_iadd r_12_list_255 (by omega) ?_
                          refine pw_ialdv (v := gA G 272 (0) ((((60 * t) + (i + (3 * k))) + 2))) r_12_list_256 sh272 (by omega) (by omega) (by first | rfl | simp [gF_sF, gF_sA, gF_uA, gF_sD, gA_sF, gA_sA, gA_uA, gA_sD, gD_sF, gD_sA, gD_uA, gD_sD]) ?_
                          refine pw_const r_12_list_257 ?_
                          refine pw_const r_12_list_258 ?_
                          refine pw_callS (av := [vI (gA G 272 (0) ((((60 * t) + (i + (3 * k))) + 2))), vI (1), vI (27)]) (st := []) (ls0 := [some (vI (gA G 272 (0) ((((60 * t) + (i + (3 * k))) + 2)))), some (vI (1)), some (vI (27))]) r_12_list_260 rfl rfl rfl (Nat.le_refl _) ?_
                          refine sp_X12_within  ?_
                          refine pw_if_neB r_12_list_263 (fun h263 => ?_) (fun h263 => ?_)
                          · skip
                            refine pw_aload r_12_list_269 rfl ?_
                            refine pw_iload r_12_list_270 rfl ?_
                            refine pw_aload r_12_list_271 rfl ?_
                            refine pw_getR r_12_list_272 fs_12_108 (by decide) ?_
                            refine pw_iload r_12_list_275 rfl ?_
                            refine pw_const r_12_list_277 ?_
                            refine pw_iadd r_12_list_278 (by omega) ?_
                            refine pw_ialdv (v := gA G 272 (0) ((((60 * t) + (i + (3 * k))) + 2))) r_12_list_279 sh272 (by omega) (by omega) (by first | rfl | simp [gF_sF, gF_sA, gF_uA, gF_sD, gA_sF, gA_sA, gA_uA, gA_sD, gD_sF, gD_sA, gD_uA, gD_sD]) ?_
                            refine pw_iload r_12_list_280 rfl ?_
                            refine pw_iload r_12_list_282 rfl ?_
                            refine pw_callV (av := [vI (s), vI (gA G 272 (0) ((((60 * t) + (i + (3 * k))) + 2))), vI (a), vI (u)]) (st := []) (ls0 := [some (vR 12 (0)), some (vI (s)), some (vI (gA G 272 (0) ((((60 * t) + (i + (3 * k))) + 2)))), some (vI (a)), some (vI (u))]) r_12_list_284 rfl rfl rfl (Nat.le_refl _) ?_
                            refine sp_X12_addRow (⟨show 0 ≤ (gF G 12 0 55) + k by omega, show (gF G 12 0 55) + k < 100 by omega⟩) ?_
                            refine pw_eqG (G' := sF (sA (sA (sA (sA (sF (uA (uA (uA (uA G 236 (0) (sd)) 237 (0) (wd)) 238 (0) (ag)) 239 (0) (un)) 12 (0) 55 ((gF G 12 0 55) + k)) 236 (0) (((gF G 12 0 55) + k)) (s)) 237 (0) (((gF G 12 0 55) + k)) ((gA G 272 (0) ((((60 * t) + (i + (3 * k))) + 2))))) 238 (0) (((gF G 12 0 55) + k)) (a)) 239 (0) (((gF G 12 0 55) + k)) (u)) 12 (0) 55 (((gF G 12 0 55) + k) + 1)) (by first | rfl | simp (disch := decide) [gF_sF, gF_sA, gF_uA, gF_sD, gA_sF, gA_sA, gA_uA, gA_sD, gD_sF, gD_sA, gD_uA, gD_sD]) ?_
                            refine pw_istore (ls' := [some (vR 12 (0)), some (vI (s)), some (vI (t)), some (vI (i)), some (vI (n)), some (vI (k)), some (vJ ((i + (3 * k)))), none, some (vI (((60 * t) + (i + (3 * k))))), some (vI (a)), some (vI (u)), some (vI (z)), some (vI (gF (sF (uA (uA (uA (uA G 236 (0) (sd)) 237 (0) (wd)) 238 (0) (ag)) 239 (0) (un)) 12 (0) 55 ((gF G 12 0 55) + k)) 12 0 55))]) r_12_list_287 rfl rfl ?_
                            refine pw_iinc (b := 0) (ls' := [some (vR 12 (0)), some (vI (s)), some (vI (t)), some (vI (i)), some (vI (n)), some (vI ((k + 1))), some (vJ ((i + (3 * k)))), none, some (vI (((60 * t) + (i + (3 * k))))), some (vI (a)), some (vI (u)), some (vI (z)), some (vI (gF (sF (uA (uA (uA (uA G 236 (0) (sd)) 237 (0) (wd)) 238 (0) (ag)) 239 (0) (un)) 12 (0) 55 ((gF G 12 0 55) + k)) 12 0 55))]) r_12_list_289 rfl rfl (by omega) rfl ?_
                            refine pw_goto r_12_list_292 ?_
                            refine pw_weakL (ls' := [some (vR 12 (0)), some (vI (s)), some (vI (t)), some (vI (i)), some (vI (n)), some (vI ((k + 1))), none, none, none, none, none, none, none]) (⟨rfl, ⟨rfl, ⟨rfl, ⟨rfl, ⟨rfl, ⟨rfl, trivial⟩⟩⟩⟩⟩⟩) ?_
                            refine pw_eqG (G' := sF (uA (uA (uA (uA G 236 (0) (upA sd ((gF G 12 0 55) + k) s)) 237 (0) (upA wd ((gF G 12 0 55) + k) (gA G 272 0 (60 * t + (i + 3 * k) + 2)))) 238 (0) (upA ag ((gF G 12 0 55) + k) a)) 239 (0) (upA un ((gF G 12 0 55) + k) u)) 12 (0) 55 ((gF G 12 0 55) + (k + 1))) (by rw [show (gF G 12 0 55) + (k + 1) = (gF G 12 0 55) + k + 1 by omega]; exact tpm_step) ?_
                            exact ih43 ((k + 1)) (upA sd ((gF G 12 0 55) + k) s) (upA wd ((gF G 12 0 55) + k) (gA G 272 0 (60 * t + (i + 3 * k) + 2))) (upA ag ((gF G 12 0 55) + k) a) (upA un ((gF G 12 0 55) + k) u) (by omega) (Or.inr hi1) (by omega) (all_s hg ⟨by omega, by omega, by omega, by unfold goodM; omega⟩) (ListM_step hk.1 hL (by omega) (by omega)) (by omega)
                          · skip
                            refine pw_iload r_12_list_266 rfl ?_
                            refine pw_iret r_12_list_268 rfl (Nat.le_refl _) ⟨rfl, ?_⟩
                            first | exact h1 (by omega) | exact h2 (by omega) (by omega) | exact pe (h3 (by omega) (by omega) k sd wd ag un hk hg (Or.inl (by omega)) hL) (by omega) | exact h3 (by omega) (by omega) k sd wd ag un hk hg (Or.inr (fun z => by unfold goM goodM at z; omega)) hL | exact h3 (by omega) (by omega) k sd wd ag un hk hg (Or.inr (fun z => by unfold goM goodM at z; omega)) hL
                      have L164 : ∀ (a u : Int), (ha : (((gA G 272 0 (60 * t + (i + 3 * k))) = (gF G 12 0 57) ∧ a = -1) ∨ ((gA G 272 0 (60 * t + (i + 3 * k))) ≠ (gF G 12 0 57) ∧ a = (gA G 272 0 (60 * t + (i + 3 * k)))))) → (hu : (((gA G 272 0 (60 * t + (i + 3 * k) + 1)) = (gF G 12 0 57) ∧ u = -1) ∨ ((gA G 272 0 (60 * t + (i + 3 * k) + 1)) ≠ (gF G 12 0 57) ∧ u = (gA G 272 0 (60 * t + (i + 3 * k) + 1))))) → PW l w M_X12_list (d + 2) 164 [some (vR 12 (0)), some (vI (s)), some (vI (t)), some (vI (i)), some (vI (n)), some (vI (k)), some (vJ ((i + (3 * k)))), none, some (vI (((60 * t) + (i + (3 * k))))), some (vI (a)), none, none, none] [vI (u)] (sF (uA (uA (uA (uA G 236 (0) (sd)) 237 (0) (wd)) 238 (0) (ag)) 239 (0) (un)) 12 (0) 55 ((gF G 12 0 55) + k)) P := by
                        intro a u ha hu
                        refine pw_istore (ls' := [some (vR 12 (0)), some (vI (s)), some (vI (t)), some (vI (i)), some (vI (n)), some (vI (k)), some (vJ ((i + (3 * k)))), none, some (vI (((60 * t) + (i + (3 * k))))), some (vI (a)), some (vI (u)), none, none]) r_12_list_164 rfl rfl ?_
                        refine pw_iload r_12_list_166 rfl ?_
                        refine pw_const r_12_list_168 ?_
                        refine pw_icmp_ne r_12_list_169 (fun h169 => ?_) (fun h169 => ?_)
                        · skip
                          refine pw_iload r_12_list_189 rfl ?_
                          refine pw_const r_12_list_191 ?_
                          refine pw_const r_12_list_192 ?_
                          refine pw_callS (av := [vI (a), vI (0), vI (99)]) (st := []) (ls0 := [some (vI (a)), some (vI (0)), some (vI (99))]) r_12_list_194 rfl rfl rfl (Nat.le_refl _) ?_
                          refine sp_X12_within  ?_
                          refine pw_if_eqB r_12_list_197 (fun h197 => ?_) (fun h197 => ?_)
                          · skip
                            refine pw_const r_12_list_240 ?_
                            exact L241 (a) (u) (0) (by first | assumption | omega) (by first | assumption | omega) (by first | assumption | omega) 
                          · skip
                            refine pw_iload r_12_list_200 rfl ?_
                            refine pw_const r_12_list_202 ?_
                            refine pw_icmp_ne r_12_list_203 (fun h203 => ?_) (fun h203 => ?_)
                            · skip
                              refine pw_iload r_12_list_225 rfl ?_
                              refine pw_const r_12_list_227 ?_
                              refine pw_const r_12_list_228 ?_
                              refine pw_callS (av := [vI (u), vI (0), vI (99)]) (st := []) (ls0 := [some (vI (u)), some (vI (0)), some (vI (99))]) r_12_list_230 rfl rfl rfl (Nat.le_refl _) ?_
                              refine sp_X12_within  ?_
                              refine pw_if_eqB r_12_list_233 (fun h233 => ?_) (fun h233 => ?_)
                              · skip
                                refine pw_const r_12_list_240 ?_
                                exact L241 (a) (u) (0) (by first | assumption | omega) (by first | assumption | omega) (by first | assumption | omega) 
                              · skip
                                refine pw_const r_12_list_236 ?_
                                refine pw_goto r_12_list_237 ?_
                                exact L241 (a) (u) (1) (by first | assumption | omega) (by first | assumption | omega) (by first | assumption | omega) 
                            · skip
                              refine pw_aload r_12_list_206 rfl ?_
                              refine pw_getR r_12_list_207 fs_12_108 (by decide) ?_
                              refine pw_iload r_12_list_210 rfl ?_
                              refine pw_const r_12_list_212 ?_
                              refine pw_iadd r_12_list_213 (by omega) ?_
                              refine pw_ialdv (v := gA G 272 (0) ((((60 * t) + (i + (3 * k))) + 1))) r_12_list_214 sh272 (by omega) (by omega) (by first | rfl | simp [gF_sF, gF_sA, gF_uA, gF_sD, gA_sF, gA_sA, gA_uA, gA_sD, gD_sF, gD_sA, gD_uA, gD_sD]) ?_
                              refine pw_aload r_12_list_215 rfl ?_
                              refine pw_getIv (v := gF G 12 (0) 57) r_12_list_216 fs_12_57 (by decide) (by first | rfl | simp [gF_sF, gF_sA, gF_uA, gF_sD, gA_sF, gA_sA, gA_uA, gA_sD, gD_sF, gD_sA, gD_uA, gD_sD]) ?_
                              refine pw_icmp_ne r_12_list_219 (fun h219 => ?_) (fun h219 => ?_)
                              · skip
                                refine pw_const r_12_list_240 ?_
                                exact L241 (a) (u) (0) (by first | assumption | omega) (by first | assumption | omega) (by first | assumption | omega) 
                              · skip
                                refine pw_goto r_12_list_222 ?_
                                refine pw_const r_12_list_236 ?_
                                refine pw_goto r_12_list_237 ?_
                                exact L241 (a) (u) (1) (by first | assumption | omega) (by first | assumption | omega) (by first | assumption | omega) 
                        · skip
                          refine pw_aload r_12_list_172 rfl ?_
                          refine pw_getR r_12_list_173 fs_12_108 (by decide) ?_
                          refine pw_iload r_12_list_176 rfl ?_
                          refine pw_ialdv (v := gA G 272 (0) (((60 * t) + (i + (3 * k))))) r_12_list_178 sh272 (by omega) (by omega) (by first | rfl | simp [gF_sF, gF_sA, gF_uA, gF_sD, gA_sF, gA_sA, gA_uA, gA_sD, gD_sF, gD_sA, gD_uA, gD_sD]) ?_
                          refine pw_aload r_12_list_179 rfl ?_
                          refine pw_getIv (v := gF G 12 (0) 57) r_12_list_180 fs_12_57 (by decide) (by first | rfl | simp [gF_sF, gF_sA, gF_uA, gF_sD, gA_sF, gA_sA, gA_uA, gA_sD, gD_sF, gD_sA, gD_uA, gD_sD]) ?_
                          refine pw_icmp_ne r_12_list_183 (fun h183 => ?_) (fun h183 => ?_)
                          · skip
                            refine pw_const r_12_list_240 ?_
                            exact L241 (a) (u) (0) (by first | assumption | omega) (by first | assumption | omega) (by first | assumption | omega) 
                          · skip
                            refine pw_goto r_12_list_186 ?_
                            refine pw_iload r_12_list_200 rfl ?_
                            refine pw_const r_12_list_202 ?_
                            refine pw_icmp_ne r_12_list_203 (fun h203 => ?_) (fun h203 => ?_)
                            · skip
                              refine pw_iload r_12_list_225 rfl ?_
                              refine pw_const r_12_list_227 ?_
                              refine pw_const r_12_list_228 ?_
                              refine pw_callS (av := [vI (u), vI (0), vI (99)]) (st := []) (ls0 := [some (vI (u)), some (vI (0)), some (vI (99))]) r_12_list_230 rfl rfl rfl (Nat.le_refl _) ?_
                              refine sp_X12_within  ?_
                              refine pw_if_eqB r_12_list_233 (fun h233 => ?_) (fun h233 => ?_)
                              · skip
                                refine pw_const r_12_list_240 ?_
                                exact L241 (a) (u) (0) (by first | assumption | omega) (by first | assumption | omega) (by first | assumption | omega) 
                              · skip
                                refine pw_const r_12_list_236 ?_
                                refine pw_goto r_12_list_237 ?_
                                exact L241 (a) (u) (1) (by first | assumption | omega) (by first | assumption | omega) (by first | assumption | omega) 
                            · skip
                              refine pw_aload r_12_list_206 rfl ?_
                              refine pw_getR r_12_list_207 fs_12_108 (by decide) ?_
                              refine pw_iload r_12_list_210 rfl ?_
                              refine pw_const r_12_list_212 ?_
                              refine pw_iadd r_12_list_213 (by omega) ?_
                              refine pw_ialdv (v := gA G 272 (0) ((((60 * t) + (i + (3 * k))) + 1))) r_12_list_214 sh272 (by omega) (by omega) (by first | rfl | simp [gF_sF, gF_sA, gF_uA, gF_sD, gA_sF, gA_sA, gA_uA, gA_sD, gD_sF, gD_sA, gD_uA, gD_sD]) ?_
                              refine pw_aload r_12_list_215 rfl ?_
                              refine pw_getIv (v := gF G 12 (0) 57) r_12_list_216 fs_12_57 (by decide) (by first | rfl | simp [gF_sF, gF_sA, gF_uA, gF_sD, gA_sF, gA_sA, gA_uA, gA_sD, gD_sF, gD_sA, gD_uA, gD_sD]) ?_
                              refine pw_icmp_ne r_12_list_219 (fun h219 => ?_) (fun h219 => ?_)
                              · skip
                                refine pw_const r_12_list_240 ?_
                                exact L241 (a) (u) (0) (by first | assumption | omega) (by first | assumption | omega) (by first | assumption | omega) 
                              · skip
                                refine pw_goto r_12_list_222 ?_
                                refine pw_const r_12_list_236 ?_
                                refine pw_goto r_12_list_237 ?_
                                exact L241 (a) (u) (1) (by first | assumption | omega) (by first | assumption | omega) (by first | assumption | omega) 
                      have L133 : ∀ (a : Int), (ha : (((gA G 272 0 (60 * t + (i + 3 * k))) = (gF G 12 0 57) ∧ a = -1) ∨ ((gA G 272 0 (60 * t + (i + 3 * k))) ≠ (gF G 12 0 57) ∧ a = (gA G 272 0 (60 * t + (i + 3 * k)))))) → PW l w M_X12_list (d + 2) 133 [some (vR 12 (0)), some (vI (s)), some (vI (t)), some (vI (i)), some (vI (n)), some (vI (k)), some (vJ ((i + (3 * k)))), none, some (vI (((60 * t) + (i + (3 * k))))), none, none, none, none] [vI (a)] (sF (uA (uA (uA (uA G 236 (0) (sd)) 237 (0) (wd)) 238 (0) (ag)) 239 (0) (un)) 12 (0) 55 ((gF G 12 0 55) + k)) P := by
                        intro a ha
                        refine pw_istore (ls' := [some (vR 12 (0)), some (vI (s)), some (vI (t)), some (vI (i)), some (vI (n)), some (vI (k)), some (vJ ((i + (3 * k)))), none, some (vI (((60 * t) + (i + (3 * k))))), some (vI (a)), none, none, none]) r_12_list_133 rfl rfl ?_
                        refine pw_aload r_12_list_135 rfl ?_
                        refine pw_getR r_12_list_136 fs_12_108 (by decide) ?_
                        refine pw_iload r_12_list_139 rfl ?_
                        refine pw_const r_12_list_141 ?_
                        refine pw_iadd r_12_list_142 (by omega) ?_
                        refine pw_ialdv (v := gA G 272 (0) ((((60 * t) + (i + (3 * k))) + 1))) r_12_list_143 sh272 (by omega) (by omega) (by first | rfl | simp [gF_sF, gF_sA, gF_uA, gF_sD, gA_sF, gA_sA, gA_uA, gA_sD, gD_sF, gD_sA, gD_uA, gD_sD]) ?_
                        refine pw_aload r_12_list_144 rfl ?_
                        refine pw_getIv (v := gF G 12 (0) 57) r_12_list_145 fs_12_57 (by decide) (by first | rfl | simp [gF_sF, gF_sA, gF_uA, gF_sD, gA_sF, gA_sA, gA_uA, gA_sD, gD_sF, gD_sA, gD_uA, gD_sD]) ?_
                        refine pw_icmp_ne r_12_list_148 (fun h148 => ?_) (fun h148 => ?_)
                        · skip
                          refine pw_aload r_12_list_155 rfl ?_
                          refine pw_getR r_12_list_156 fs_12_108 (by decide) ?_
                          refine pw_iload r_12_list_159 rfl ?_
                          refine pw_const r_12_list_161 ?_
                          refine pw_iadd r_12_list_162 (by omega) ?_
                          refine pw_ialdv (v := gA G 272 (0) ((((60 * t) + (i + (3 * k))) + 1))) r_12_list_163 sh272 (by omega) (by omega) (by first | rfl | simp [gF_sF, gF_sA, gF_uA, gF_sD, gA_sF, gA_sA, gA_uA, gA_sD, gD_sF, gD_sA, gD_uA, gD_sD]) ?_
                          exact L164 (a) (gA G 272 (0) ((((60 * t) + (i + (3 * k))) + 1))) (by first | assumption | omega) (by first | assumption | omega) 
                        · skip
                          refine pw_const r_12_list_151 ?_
                          refine pw_goto r_12_list_152 ?_
                          exact L164 (a) ((-1)) (by first | assumption | omega) (by first | assumption | omega) 
                      refine pw_aload r_12_list_108 rfl ?_
                      refine pw_getR r_12_list_109 fs_12_108 (by decide) ?_
                      refine pw_iload r_12_list_112 rfl ?_
                      refine pw_ialdv (v := gA G 272 (0) (((60 * t) + (i + (3 * k))))) r_12_list_114 sh272 (by omega) (by omega) (by first | rfl | simp [gF_sF, gF_sA, gF_uA, gF_sD, gA_sF, gA_sA, gA_uA, gA_sD, gD_sF, gD_sA, gD_uA, gD_sD]) ?_
                      refine pw_aload r_12_list_115 rfl ?_
                      refine pw_getIv (v := gF G 12 (0) 57) r_12_list_116 fs_12_57 (by decide) (by first | rfl | simp [gF_sF, gF_sA, gF_uA, gF_sD, gA_sF, gA_sA, gA_uA, gA_sD, gD_sF, gD_sA, gD_uA, gD_sD]) ?_
                      refine pw_icmp_ne r_12_list_119 (fun h119 => ?_) (fun h119 => ?_)
                      · skip
                        refine pw_aload r_12_list_126 rfl ?_
                        refine pw_getR r_12_list_127 fs_12_108 (by decide) ?_
                        refine pw_iload r_12_list_130 rfl ?_
                        refine pw_ialdv (v := gA G 272 (0) (((60 * t) + (i + (3 * k))))) r_12_list_132 sh272 (by omega) (by omega) (by first | rfl | simp [gF_sF, gF_sA, gF_uA, gF_sD, gA_sF, gA_sA, gA_uA, gA_sD, gD_sF, gD_sA, gD_uA, gD_sD]) ?_
                        exact L133 (gA G 272 (0) (((60 * t) + (i + (3 * k))))) (by first | assumption | omega) 
                      · skip
                        refine pw_const r_12_list_122 ?_
                        refine pw_goto r_12_list_123 ?_
                        exact L133 ((-1)) (by first | assumption | omega) 
                    · skip
                      refine pw_iload r_12_list_95 rfl ?_
                      refine pw_iret r_12_list_97 rfl (Nat.le_refl _) ⟨rfl, ?_⟩
                      first | exact h1 (by omega) | exact h2 (by omega) (by omega) | exact pe (h3 (by omega) (by omega) k sd wd ag un hk hg (Or.inl (by omega)) hL) (by omega) | exact h3 (by omega) (by omega) k sd wd ag un hk hg (Or.inr (fun z => by unfold goM goodM at z; omega)) hL | exact h3 (by omega) (by omega) k sd wd ag un hk hg (Or.inr (fun z => by unfold goM goodM at z; omega)) hL
          refine pw_eqG (G' := sF (uA (uA (uA (uA G 236 (0) (fun i => (gA G 236 0 (i)))) 237 (0) (fun i => (gA G 237 0 (i)))) 238 (0) (fun i => (gA G 238 0 (i)))) 239 (0) (fun i => (gA G 239 0 (i)))) 12 (0) 55 ((gF G 12 0 55) + 0)) (by rw [uA_self, uA_self, uA_self, uA_self, show (gF G 12 0 55) + 0 = (gF G 12 0 55) by omega, sF_self]) ?_
          exact L43 _ (0) (fun i => (gA G 236 0 (i))) (fun i => (gA G 237 0 (i))) (fun i => (gA G 238 0 (i))) (fun i => (gA G 239 0 (i))) (by omega) (Or.inl rfl) (by omega) (fun j a b => by omega) (⟨fun r a => ⟨rfl, rfl, rfl, rfl⟩, fun j a b => by omega⟩) (Nat.lt_succ_self _)
        · skip
          refine pw_const r_12_list_37 ?_
          refine pw_iret r_12_list_39 rfl (Nat.le_refl _) ⟨rfl, ?_⟩
          first | exact h1 (by omega) | exact h2 (by omega) (by omega) | exact pe (h3 (by omega) (by omega) k sd wd ag un hk hg (Or.inl (by omega)) hL) (by omega) | exact h3 (by omega) (by omega) k sd wd ag un hk hg (Or.inr (fun z => by unfold goM goodM at z; omega)) hL | exact h3 (by omega) (by omega) k sd wd ag un hk hg (Or.inr (fun z => by unfold goM goodM at z; omega)) hL
      · skip
        refine pw_const r_12_list_25 ?_
        refine pw_iret r_12_list_26 rfl (Nat.le_refl _) ⟨rfl, ?_⟩
        first | exact h1 (by omega) | exact h2 (by omega) (by omega) | exact pe (h3 (by omega) (by omega) k sd wd ag un hk hg (Or.inl (by omega)) hL) (by omega) | exact h3 (by omega) (by omega) k sd wd ag un hk hg (Or.inr (fun z => by unfold goM goodM at z; omega)) hL | exact h3 (by omega) (by omega) k sd wd ag un hk hg (Or.inr (fun z => by unfold goM goodM at z; omega)) hL
set_option maxRecDepth 10000 in
theorem sp_X11_row {l : Launch} {w : Wo} {d : Nat} {G : PH} {P : Option PV → PH → Prop} {s g a u : Int} (hrw : 0 ≤ (gF G 5 0 0) ∧ (gF G 5 0 0) ≤ 100) (h1 : ¬ ((0 ≤ s ∧ s ≤ 1) ∧ (∃ n, 0 ≤ n ∧ n ≤ 5 ∧ WordN g n) ∧ (-1 ≤ a ∧ a ≤ 99) ∧ -1 ≤ u ∧ u ≤ 99) → P (some (vI (-1))) G) (h2 : (((0 ≤ s ∧ s ≤ 1) ∧ (∃ n, 0 ≤ n ∧ n ≤ 5 ∧ WordN g n) ∧ (-1 ≤ a ∧ a ≤ 99) ∧ -1 ≤ u ∧ u ≤ 99)) → (100 ≤ (gF G 5 0 0)) → P (some (vI (-2))) G) (h3 : (((0 ≤ s ∧ s ≤ 1) ∧ (∃ n, 0 ≤ n ∧ n ≤ 5 ∧ WordN g n) ∧ (-1 ≤ a ∧ a ≤ 99) ∧ -1 ≤ u ∧ u ≤ 99)) → ((gF G 5 0 0) < 100) → ∀ n lt, (0 ≤ n ∧ n ≤ 5 ∧ WordN g n) → (∀ x, 0 ≤ x → x < 5 → lt x = lft g x % 28) → P (some (vI (gF G 5 0 0))) (sF (sA (sA (sA (sA (uA G 49 ((gF G 5 0 0)) (lt)) 50 0 ((gF G 5 0 0)) (n)) 47 0 ((gF G 5 0 0)) (s)) 51 0 ((gF G 5 0 0)) (a)) 52 0 ((gF G 5 0 0)) (u)) 5 0 0 ((gF G 5 0 0) + 1))) : PW l w M_X11_row (d + 2) 0 [some (vR 11 (0)), some (vI (s)), some (vI (g)), some (vI (a)), some (vI (u))] [] G P := by
  refine pw_aload r_11_row_0 rfl ?_
  refine pw_getR r_11_row_1 fs_11_4 (by decide) ?_
  refine pw_iload r_11_row_4 rfl ?_
  refine pw_iload r_11_row_5 rfl ?_
  refine pw_iload r_11_row_6 rfl ?_
  refine pw_iload r_11_row_7 rfl ?_
  refine pw_callV (av := [vI (s), vI (g), vI (a), vI (u)]) (st := []) (ls0 := [some (vR 5 (0)), some (vI (s)), some (vI (g)), some (vI (a)), some (vI (u)), none, none, none]) r_11_row_9 rfl rfl rfl (Nat.le_refl _) ?_
  refine sp_X5_addRow (by first | assumption | exact hrw | omega) ?_ ?_ ?_
  · skip
    intro q1
    refine pw_iret r_11_row_12 rfl (Nat.le_refl _) ⟨rfl, ?_⟩
    exact h1 q1
  · skip
    intro q1 q2
    refine pw_iret r_11_row_12 rfl (Nat.le_refl _) ⟨rfl, ?_⟩
    exact h2 q1 q2
  · skip
    intro q1 q2 n lt q3 q4
    refine pw_eqG (G' := sF (sA (sA (sA (sA (uA G 49 ((gF G 5 (0) 0)) (lt)) 50 (0) ((gF G 5 (0) 0)) (n)) 47 (0) ((gF G 5 (0) 0)) (s)) 51 (0) ((gF G 5 (0) 0)) (a)) 52 (0) ((gF G 5 (0) 0)) (u)) 5 (0) 0 ((gF G 5 (0) 0) + 1)) (by first | rfl | simp (disch := decide) [gF_sF, gF_sA, gF_uA, gF_sD, gA_sF, gA_sA, gA_uA, gA_sD, gD_sF, gD_sA, gD_uA, gD_sD]) ?_
    refine pw_iret r_11_row_12 rfl (Nat.le_refl _) ⟨rfl, ?_⟩
    exact h3 q1 q2 n lt q3 q4
set_option maxRecDepth 10000 in
theorem sp_X11_list {l : Launch} {w : Wo} {d : Nat} {G : PH} {P : Option PV → PH → Prop} {s t i n : Int} (hrw : 0 ≤ (gF G 5 0 0) ∧ (gF G 5 0 0) ≤ 100) (hts : ∀ t, 0 ≤ t → t < 4 → (-1 ≤ (gA G 58 0 (t)) ∧ (gA G 58 0 (t)) ≤ 1) ∧ 0 ≤ (gA G 59 0 (t)) ∧ (gA G 59 0 (t)) ≤ 60) (h1 : ¬ ((0 ≤ s ∧ s ≤ 1) ∧ (0 ≤ t ∧ t ≤ 3) ∧ 1 ≤ n ∧ n ≤ 20) → P (some (vI (-1))) G) (h2 : ((0 ≤ s ∧ s ≤ 1) ∧ (0 ≤ t ∧ t ≤ 3) ∧ 1 ≤ n ∧ n ≤ 20) → ((gA G 58 0 (t)) ≠ 1) → P (some (vI (-5))) G) (h3 : ((0 ≤ s ∧ s ≤ 1) ∧ (0 ≤ t ∧ t ≤ 3) ∧ 1 ≤ n ∧ n ≤ 20) → ((gA G 58 0 (t)) = 1) → ∀ k L ln sd ag un, (0 ≤ k ∧ k ≤ n) → (∀ j, 0 ≤ j → j < k → goC G t i j) → (k = n ∨ ¬ goC G t i k) → ListC G t i s k L ln sd ag un → P (some (vI k)) (sF (uA (uA (uA (uA (uK G 49 (L)) 50 0 (ln)) 47 0 (sd)) 51 0 (ag)) 52 0 (un)) 5 0 0 ((gF G 5 0 0) + k))) : PW l w M_X11_list (d + 4) 0 [some (vR 11 (0)), some (vI (s)), some (vI (t)), some (vI (i)), some (vI (n))] [] G P := by
  refine pw_aload r_11_list_0 rfl ?_
  refine pw_getR r_11_list_1 fs_11_4 (by decide) ?_
  refine pw_iload r_11_list_4 rfl ?_
  refine pw_iload r_11_list_5 rfl ?_
  refine pw_iload r_11_list_6 rfl ?_
  refine pw_iload r_11_list_7 rfl ?_
  refine pw_callV (av := [vI (s), vI (t), vI (i), vI (n)]) (st := []) (ls0 := [some (vR 5 (0)), some (vI (s)), some (vI (t)), some (vI (i)), some (vI (n)), none, none]) r_11_list_9 rfl rfl rfl (Nat.le_refl _) ?_
  refine sp_X5_takeList (by first | assumption | exact hrw | omega) (by first | assumption | exact hts | omega) ?_ ?_ ?_
  · skip
    intro q1
    refine pw_iret r_11_list_12 rfl (Nat.le_refl _) ⟨rfl, ?_⟩
    exact h1 q1
  · skip
    intro q1 q2
    refine pw_iret r_11_list_12 rfl (Nat.le_refl _) ⟨rfl, ?_⟩
    exact h2 q1 q2
  · skip
    intro q1 q2 k L ln sd ag un q3 q4 q5 q6
    refine pw_eqG (G' := sF (uA (uA (uA (uA (uK G 49 (L)) 50 (0) (ln)) 47 (0) (sd)) 51 (0) (ag)) 52 (0) (un)) 5 (0) 0 ((gF G 5 (0) 0) + k)) (by first | rfl | simp (disch := decide) [gF_sF, gF_sA, gF_uA, gF_sD, gA_sF, gA_sA, gA_uA, gA_sD, gD_sF, gD_sA, gD_uA, gD_sD]) ?_
    refine pw_iret r_11_list_12 rfl (Nat.le_refl _) ⟨rfl, ?_⟩
    exact h3 q1 q2 k L ln sd ag un q3 q4 q5 q6
